import java.util.ArrayList;
import java.util.List;

/** Runs of calls that bring a lift into some state, and all that calls can show of one. */
final class State {
    final String name;
    final List<Call> calls = new ArrayList<>();

    State(String name) {
        this.name = name;
    }

    State with(String call, int... a) {
        calls.add(Call.of(call, a));
        return this;
    }

    State fed(String text) {
        for (int i = 0; i < text.length(); i++) {
            with("feed", text.charAt(i));
        }
        return this;
    }

    State read(String text) {
        return fed(text).with("text");
    }

    GetsOutFirst make() {
        GetsOutFirst x = new GetsOutFirst();
        for (Call c : calls) {
            c.on(x);
        }
        return x;
    }

    static final String LONGEST = "steps 5;late 1;moves 3" + " ".repeat(137) + ";";

    static State empty() {
        return new State("empty");
    }

    /** RIDER 0 at the door to the top, RIDER 1 behind it to floor 2: RIDER 0 steps out at 0 and at 2. */
    static State two() {
        return new State("two").with("rider", 0, 5, 90).with("rider", 0, 5, 24);
    }

    /** Three who may change much, sheets of each sort and size, half a text, an image of two of the three. */
    static State three() {
        State s = new State("three").with("rider", 3, 47, 292).with("rider", 4, 36, 160).image();
        s.with("rider", 5, 18, 374).with("set", 0, 0, 2).with("set", 1, 0, 6).with("set", 5, 1, 40);
        s.read("steps size+2*row;late rider+1;moves row*2+number;").with("force", 1);
        s.sheetOf(0, 1, 0, 0, 90, 5, 99, 895, 6, 0, 90, 1, 0, 21);
        s.with("sheet", 1, 2, 0).with("sheet", 2, 1, 40).with("cell", 2, 39, 7).with("cell", 2, 0, 1);
        return s.fed("steps 1;la");
    }

    /** A full lift, a film in sheets of each sort, one sheet missing, an image of two, half a text. */
    static State busy() {
        State s = new State("busy").with("rider", 0, 5, 90).with("rider", 3, 24, 92).image();
        s.with("rider", 4, 38, 154).with("rider", 5, 16, 231).with("rider", 1, 63, 375);
        s.read("steps size+2;late 1;moves row;").with("force", 1).with("set", 5, 0, 60).with("set", 5, 4, 25);
        s.with("film", 0, 10);
        int[] film = new int[10];
        GetsOutFirst x = s.make();
        for (int f = 0; f < 10; f++) {
            film[f] = x.floor(f, 0);
        }
        return s.sheetOf(1, 1, film).sheetOf(2, 2, film).fed("steps 1;la");
    }

    static State fullTape() {
        return new State("full tape").with("rider", 0, 5, 90).with("rider", 0, 5, 24).fed(LONGEST);
    }

    static State fullTexts() {
        State s = new State("full texts").with("rider", 0, 5, 90).with("rider", 0, 5, 24);
        for (int n = 1; n <= 5; n++) {
            s.read("steps " + n + ";late 1;moves 3;");
        }
        return s.with("force", 3).fed("steps 1;la");
    }

    private State image() {
        return with("image");
    }

    private State sheetOf(int sheet, int sort, int... items) {
        with("sheet", sheet, sort, items.length);
        for (int i = 0; i < items.length; i++) {
            with("cell", sheet, i, items[i]);
        }
        return this;
    }

    /** Calls that show all of a lift; what changes it comes last. Without STAND, if that would take too long. */
    static List<Call> shows(boolean stand) {
        State s = new State("shows");
        s.crewShows();
        for (int what = -1; what < 5 && stand; what++) {
            s.with("stand", what);
        }
        for (int r = 0; r < 5; r++) {
            s.with("one", r, 0).with("one", r, 1);
        }
        s.with("change", 0).with("change", 1).with("second", 0).with("second", 1).with("drawn", 3).with("chance", -1, 20, 0);
        s.with("mean", 0, 0).with("mean", 0, 1).with("mean", 1, 0).with("mean", 1, 1);
        s.sheetsShow();
        s.fed("te 1;moves 1;").with("text").with("count", 2).with("force", 2).with("force", 1).with("ride", 0);
        s.with("back");
        s.crewShows();
        s.with("riders", 0, 2, 0, 4).with("riders", 2, 1, 0, 2).with("copy", 2, 30, 2, 0, 10).with("landings", 2);
        s.crewShows();
        return s.calls;
    }

    private void crewShows() {
        for (int what = 0; what < 5; what++) {
            with("count", what);
        }
        for (int r = 0; r < 5; r++) {
            for (int what = 0; what < 7; what++) {
                with("told", r, what);
            }
        }
        for (int f = 0; f < 10; f++) {
            with("floor", f, 0).with("floor", f, 1);
        }
        with("ride", 0);
    }

    private void sheetsShow() {
        for (int sheet = 0; sheet < 4; sheet++) {
            with("landings", sheet).with("seen", sheet, 0, 1).with("seen", sheet, 1, 0);
            for (int sort = 0; sort < 3; sort++) {
                with("riders", sheet, sort, 0, 0);
            }
            for (int n : new int[] {1, 2, 3, 4, 9, 10, 11, 12, 40}) {
                with("copy", sheet, n, sheet, n, 0);
            }
        }
    }

    static long[] shown(GetsOutFirst x) {
        List<Call> shows = shows(true);
        long[] answers = new long[shows.size()];
        for (int i = 0; i < answers.length; i++) {
            answers[i] = shows.get(i).on(x);
        }
        return answers;
    }

    /** The call is answered so. */
    void answers(long due, String call, int... a) {
        Call c = Call.of(call, a);
        Check.due(name + ": " + c.written(), c.on(make()), due);
    }

    /** The call is answered so, and nothing that later calls show is otherwise than without it. */
    void refuses(long due, String call, int... a) {
        Call c = Call.of(call, a);
        GetsOutFirst x = make();
        Check.due(name + ": " + c.written(), c.on(x), due);
        long[] then = shown(x);
        long[] without = shown(make());
        List<Call> shows = shows(true);
        for (int i = 0; i < then.length; i++) {
            if (then[i] != without[i]) {
                Check.due(name + ": after " + c.written() + ", " + shows.get(i).written(), then[i], without[i]);
                return;
            }
        }
        Check.holds(name + ": " + c.written() + " changes nothing", true);
    }
}
