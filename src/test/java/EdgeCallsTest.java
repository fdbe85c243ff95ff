import java.util.ArrayList;
import java.util.List;

/**
 * All promises: each call, in each of some states, with every argument at all its edges and just beyond them, answered
 * by GetsOutFirst and by PlainLift, and then all that later calls show of both.
 */
public final class EdgeCallsTest {
    private static final int MIN = Integer.MIN_VALUE;
    private static final int MAX = Integer.MAX_VALUE;
    private static final int[] RIDERS = {MIN, -1, 0, 1, 2, 3, 4, 5, MAX};
    private static final int[] SHEETS = {MIN, -1, 0, 1, 2, 3, 4, MAX};
    private static final int[] FEW = {MIN, -1, 0, 1, 2, 3, MAX};
    private static final int[] PARTS = {MIN, -1, 0, 1, 2, MAX};

    private static final List<Call> SHOWS = State.shows(true);
    private static final List<Call> SHOWS_BUT_STAND = State.shows(false);

    public static void main(String[] args) {
        for (State s : new State[] {State.empty(), State.two(), State.three(), State.busy(), State.fullTape(), State.fullTexts()}) {
            for (List<Call> calls : allCalls()) {
                answers(s, calls);
            }
        }
        Check.end("EdgeCallsTest");
    }

    private static List<List<Call>> allCalls() {
        List<List<Call>> all = new ArrayList<>();
        all.add(calls("rider", new int[] {MIN, -1, 0, 3, 5, 6, MAX}, new int[] {MIN, -1, 0, 99, 100, MAX},
            new int[] {MIN, -1, 0, 5, 10, 15, 16, 24, 90, 92, 95, 96, 110, 120, 295, 890, 895, 896, 900, 1010, MAX}));
        all.add(calls("set", new int[] {MIN, -1, 0, 1, 2, 3, 4, 5, 6, MAX}, RIDERS,
            new int[] {MIN, -1, 0, 1, 2, 3, 4, 5, 6, 9, 10, 99, 100, 101, MAX}));
        all.add(calls("told", RIDERS, new int[] {MIN, -1, 0, 1, 2, 3, 4, 5, 6, 7, MAX}));
        all.add(calls("lets", RIDERS, RIDERS));
        all.add(calls("feed", new int[] {MIN, -1, 0, 59, 255, 256, MAX}));
        all.add(calls("text"));
        all.add(calls("force", new int[] {MIN, -1, 0, 1, 2, 5, 6, MAX}));
        all.add(calls("ride", FEW));
        all.add(calls("floor", new int[] {MIN, -1, 0, 1, 2, 3, 4, 5, 6, 7, 8, 9, 10, MAX}, FEW));
        all.add(calls("stand", new int[] {MIN, -2, -1, 0, 1, 2, 3, 4, 5, MAX}));
        all.add(calls("one", RIDERS, PARTS));
        all.add(calls("change", PARTS));
        all.add(calls("second", PARTS));
        all.add(calls("stands"));
        all.add(calls("mean", PARTS, PARTS));
        all.add(calls("landings", SHEETS));
        all.add(calls("seen", SHEETS, RIDERS, FEW));
        all.add(calls("film", SHEETS, new int[] {MIN, -1, 0, 1, 9, 10, 11, MAX}));
        all.add(calls("drawn", new int[] {MIN, MIN + 1, -1, 0, 1, MAX}));
        all.add(calls("chance", new int[] {MIN, -1, 0, MAX}, new int[] {MIN, -1, 0, 1, 2, 19, 20, 21, MAX}, PARTS));
        all.add(calls("image"));
        all.add(calls("back"));
        all.add(calls("count", new int[] {MIN, -1, 0, 1, 2, 3, 4, 5, MAX}));
        all.add(calls("sheet", SHEETS, new int[] {MIN, -2, -1, 0, 1, 2, 3, MAX}, new int[] {MIN, -1, 0, 1, 10, 11, 40, 41, MAX}));
        all.add(calls("cell", SHEETS, new int[] {MIN, -1, 0, 9, 10, 11, 12, 39, 40, MAX},
            new int[] {MIN, -129, -1, 0, 127, 128, 256, 32768, 65536, MAX}));
        all.add(calls("copy", SHEETS, new int[] {MIN, -1, 0, 1, 10, 11, 40, MAX}, new int[] {-1, 0, 1, 2, 3, 4},
            new int[] {MIN, -1, 0, 1, 9, 12, 39, MAX}, new int[] {MIN, -1, 0, 1, 2, 10, 40, 41, MAX}));
        all.add(calls("riders", SHEETS, new int[] {MIN, -1, 0, 1, 2, 3, MAX},
            new int[] {MIN, -3, -1, 0, 1, 3, 9, 10, 37, 38, MAX - 2, MAX}, new int[] {MIN, -1, 0, 1, 4, 5, 6, MAX}));
        all.add(calls("taken", RIDERS, new int[] {MIN, -1, 0, 1, 2, 3, 4, 5, 6, MAX}));
        return all;
    }

    /** All calls of a name whose arguments are each one of those. */
    private static List<Call> calls(String name, int[]... arguments) {
        List<Call> all = new ArrayList<>();
        int many = 1;
        for (int[] some : arguments) {
            many *= some.length;
        }
        for (int code = 0; code < many; code++) {
            int[] a = new int[arguments.length];
            int rest = code;
            for (int i = a.length - 1; i >= 0; i--) {
                a[i] = arguments[i][rest % arguments[i].length];
                rest /= arguments[i].length;
            }
            all.add(Call.of(name, a));
        }
        return all;
    }

    /** Calls that change nothing are made one behind another on one lift; all that it shows is seen then. */
    private static void answers(State s, List<Call> calls) {
        Pair pair = new Pair(s);
        for (Call c : calls) {
            long due = pair.same(c);
            if (c.changes() && due >= 0) {
                pair.showSame();
                pair = new Pair(s);
            } else if (!pair.hasRoom()) {
                pair.showSame();
                pair = new Pair(s);
            }
        }
        pair.showSame();
    }

    private static final class Pair {
        private final State state;
        private final GetsOutFirst x;
        private final PlainLift plain = new PlainLift();
        private Call last;
        int made;

        Pair(State s) {
            state = s;
            Check.holds(s.name + " leaves room for calls", hasRoom());
            x = s.make();
            for (Call c : s.calls) {
                c.on(plain);
            }
        }

        long same(Call c) {
            made++;
            last = c;
            long due = c.on(plain);
            Check.due(state.name + ": " + c.written(), c.on(x), due);
            return due;
        }

        /** An object is used for at most 512 calls. */
        boolean hasRoom() {
            return state.calls.size() + made + SHOWS.size() < 512;
        }

        void showSame() {
            String after = state.name + ": after " + (last == null ? "nothing" : last.written()) + ", ";
            // the plain double looks through all ways to stand, which takes long for five
            for (Call c : plain.riders.size() < 3 ? SHOWS : SHOWS_BUT_STAND) {
                Check.due(after + c.written(), c.on(x), c.on(plain));
            }
        }
    }
}
