/** The bounds of promises 1 to 5, each sentence of the document by itself. */
public final class RidersBoundsTest {
    private static final int BAD = GetsOutFirst.BAD, STATE = GetsOutFirst.STATE, FULL = GetsOutFirst.FULL;
    private static final int MIN = Integer.MIN_VALUE, MAX = Integer.MAX_VALUE;
    private static final int[] FAR = {MIN, MIN + 1, -1000, -100, -10, -1, 256, 1000, MAX - 1, MAX};

    public static void main(String[] args) {
        aNewLiftHasNothing();
        kindsAre0To5();
        numberAndSizeAre0To9();
        everyWay();
        farWays();
        fiveRidersAtMost();
        riderRefusesInOrder();
        aRefusedRiderChangesNothing();
        aRiderComesWithAChanceOf100();
        twoOnOnePlaceByRider();
        twoOnOnePlaceByTo();
        twoOnOnePlaceByPlace();
        whoGetsOutAndWhoGetsInOnOnePlace();
        doorsAre1Or2();
        ofDoorsOfDoesNotMatter();
        setTakesEachBetweenItsBounds();
        toIsAboveFrom();
        setRefusesWhatIsNone();
        setRefusesWhoIsNone();
        setRefusesInOrder();
        aRefusedSetChangesNothing();
        toldRefuses();
        letsByEveryNumber();
        letsDoesNotMindWhereTheyStand();
        letsRefuses();
        whoWentIsNone();
        Check.end("RidersBoundsTest");
    }

    private static GetsOutFirst with(int... kindWhatWay) {
        GetsOutFirst x = new GetsOutFirst();
        for (int i = 0; i < kindWhatWay.length; i += 3) {
            x.rider(kindWhatWay[i], kindWhatWay[i + 1], kindWhatWay[i + 2]);
        }
        return x;
    }

    private static void toldIs(String what, GetsOutFirst x, int r, int... due) {
        for (int k = 0; k < due.length; k++) {
            Check.due(what + ": told(" + r + ", " + k + ")", x.told(r, k), due[k]);
        }
    }

    private static void aNewLiftHasNothing() {
        State s = State.empty();
        int[] counts = {0, 1, 1, 0, 0};
        for (int what = 0; what < 5; what++) {
            s.answers(counts[what], "count", what);
        }
        s.answers(BAD, "told", 0, 0);
        s.answers(BAD, "lets", 0, 1);
        s.answers(STATE, "back");
        for (int sheet = 0; sheet < 4; sheet++) {
            s.answers(-11, "cell", sheet, 0, 0);
        }
    }

    private static void kindsAre0To5() {
        for (int kind = 0; kind <= 5; kind++) {
            GetsOutFirst x = new GetsOutFirst();
            Check.due("2: KIND " + kind, x.rider(kind, 12, 243), 0);
            toldIs("2: KIND " + kind, x, 0, kind, 1, 2, 4, 3, 100, 2);
        }
        State.empty().refuses(BAD, "rider", -1, 0, 10);
        State.empty().refuses(BAD, "rider", 6, 0, 10);
        for (int kind : FAR) {
            State.two().refuses(BAD, "rider", kind, 0, 91);
        }
    }

    private static void numberAndSizeAre0To9() {
        for (int what = 0; what <= 99; what++) {
            GetsOutFirst x = new GetsOutFirst();
            Check.due("2: NUMBER and SIZE " + what, x.rider(0, what, 10), 0);
            toldIs("2: NUMBER and SIZE " + what, x, 0, 0, what / 10, what % 10);
        }
        State.empty().refuses(BAD, "rider", 0, -1, 10);
        State.empty().refuses(BAD, "rider", 0, -9, 10);
        State.empty().refuses(BAD, "rider", 0, 100, 10);
        for (int what : FAR) {
            State.two().refuses(BAD, "rider", 0, what, 91);
        }
    }

    /** Three digits, each 0 to 9: FROM up to 8, TO above it, PLACE up to 5. */
    private static void everyWay() {
        for (int from = 0; from <= 10; from++) {
            for (int to = 0; to <= 9; to++) {
                for (int place = 0; place <= 9; place++) {
                    boolean right = from <= 8 && to > from && place <= 5;
                    GetsOutFirst x = new GetsOutFirst();
                    int way = 100 * from + 10 * to + place;
                    Check.due("2: way " + way, x.rider(5, 7, way), right ? 0 : BAD);
                    Check.due("2: way " + way + ", RIDERS", x.count(0), right ? 1 : 0);
                    if (right) {
                        toldIs("2: way " + way, x, 0, 5, 0, 7, to, place, 100, from);
                    }
                }
            }
        }
    }

    private static void farWays() {
        for (int way = -200; way <= 0; way++) {
            Check.due("2: way " + way, new GetsOutFirst().rider(0, 0, way), BAD);
        }
        for (int way = 896; way <= 1200; way++) {
            Check.due("2: way " + way, new GetsOutFirst().rider(0, 0, way), BAD);
        }
        for (int way : FAR) {
            State.two().refuses(BAD, "rider", 0, 0, way);
        }
        for (int way : new int[] {0, 9, 16, 19, 100, 880, 888, 896, 900, 999}) {
            State.two().refuses(BAD, "rider", 0, 0, way);
        }
        State.empty().refuses(BAD, "rider", 0, 0, MIN + 90);
        State.empty().refuses(BAD, "rider", 0, 0, MIN + 890);
    }

    private static void fiveRidersAtMost() {
        GetsOutFirst x = new GetsOutFirst();
        for (int r = 0; r < 5; r++) {
            Check.due("2: RIDER " + r, x.rider(0, 0, 90 + r), r);
            Check.due("2: RIDERS", x.count(0), r + 1);
        }
        Check.due("2: a sixth one, on a free PLACE", x.rider(0, 0, 95), FULL);
        Check.due("2: RIDERS", x.count(0), 5);
        State.busy().refuses(FULL, "rider", 0, 0, 895);
        State.busy().refuses(FULL, "rider", 5, 99, 10);
    }

    private static void riderRefusesInOrder() {
        // PLACE 0 is taken from 0 to 9
        State.two().refuses(STATE, "rider", 0, 0, 90);
        State.two().refuses(BAD, "rider", -1, 0, 90);
        State.two().refuses(BAD, "rider", 6, 0, 90);
        State.two().refuses(BAD, "rider", 0, -1, 90);
        State.two().refuses(BAD, "rider", 0, 100, 90);
        State.two().refuses(BAD, "rider", 0, 0, 900);
        State.busy().refuses(FULL, "rider", 0, 0, 90);
        State.busy().refuses(BAD, "rider", -1, 0, 90);
        State.busy().refuses(BAD, "rider", 6, 0, 90);
        State.busy().refuses(BAD, "rider", 0, -1, 90);
        State.busy().refuses(BAD, "rider", 0, 100, 90);
        State.busy().refuses(BAD, "rider", 0, 0, 0);
        State.busy().refuses(BAD, "rider", 0, 0, 96);
    }

    private static void aRefusedRiderChangesNothing() {
        for (State s : new State[] {State.two(), State.three(), State.fullTape(), State.fullTexts()}) {
            s.refuses(BAD, "rider", 5, 99, 96);
            s.refuses(BAD, "rider", 5, 100, 95);
        }
        State.two().refuses(STATE, "rider", 5, 99, 890);
        State.three().refuses(STATE, "rider", 4, 99, 892);
        GetsOutFirst x = with(0, 0, 90);
        Check.due("2: STATE", x.rider(5, 99, 90), STATE);
        Check.due("2: the next one", x.rider(1, 23, 91), 1);
        toldIs("2: the next one", x, 1, 1, 2, 3, 9, 1, 100, 0);
    }

    private static void aRiderComesWithAChanceOf100() {
        GetsOutFirst x = new GetsOutFirst();
        x.image();
        x.rider(0, 0, 90);
        Check.due("3: CHANCE at first", x.set(5, 0, 7), 100);
        x.back();
        x.rider(0, 0, 90);
        Check.due("2: CHANCE of one who comes later", x.told(0, 5), 100);
    }

    private static boolean meet(int from, int to, int otherFrom, int otherTo) {
        for (int f = 0; f < 9; f++) {
            if (from <= f && f < to && otherFrom <= f && f < otherTo) {
                return true;
            }
        }
        return false;
    }

    private static void twoOnOnePlaceByRider() {
        Ways.forAll((f, t, g, u) -> {
            GetsOutFirst x = with(0, 0, 91, 0, 0, 100 * f + 10 * t + 5);
            String what = "2: " + f + " to " + t + ", and " + g + " to " + u;
            boolean meet = meet(f, t, g, u);
            Check.due(what, x.rider(0, 0, 100 * g + 10 * u + 5), meet ? STATE : 2);
            Check.due(what + ": RIDERS", x.count(0), meet ? 2 : 3);
            Check.due(what + ", elsewhere", x.rider(0, 0, 100 * g + 10 * u + 4), meet ? 2 : 3);
        });
    }

    private static void twoOnOnePlaceByTo() {
        Ways.forAll((f, t, g, u) -> {
            if (meet(f, t, g, g + 1)) {
                return;
            }
            GetsOutFirst x = with(0, 0, 91, 0, 0, 100 * g + 10 * (g + 1) + 3, 0, 0, 100 * f + 10 * t + 3);
            String what = "3: TO, " + f + " to " + t + ", and " + g + " to " + u;
            boolean meet = meet(f, t, g, u);
            Check.due(what, x.set(3, 1, u), meet ? STATE : g + 1);
            Check.due(what + ": then", x.told(1, 3), meet ? g + 1 : u);
        });
    }

    private static void twoOnOnePlaceByPlace() {
        Ways.forAll((f, t, g, u) -> {
            GetsOutFirst x = with(0, 0, 100 * f + 10 * t, 0, 0, 91, 0, 0, 100 * g + 10 * u + 2);
            String what = "3: PLACE, " + f + " to " + t + ", and " + g + " to " + u;
            boolean meet = meet(f, t, g, u);
            Check.due(what, x.set(4, 2, 0), meet ? STATE : 2);
            Check.due(what + ": then", x.told(2, 4), meet ? 2 : 0);
        });
    }

    private static void whoGetsOutAndWhoGetsInOnOnePlace() {
        GetsOutFirst x = new GetsOutFirst();
        for (int r = 0; r < 5; r++) {
            Check.due("2: one floor each, one behind another", x.rider(0, 0, 100 * r + 10 * (r + 1)), r);
        }
        Check.due("3: the last one stays longer", x.set(3, 4, 9), 5);
        Check.due("3: the first one can't", x.set(3, 0, 2), STATE);
        Check.due("3: as long as it does", x.set(3, 0, 1), 1);
    }

    private static void doorsAre1Or2() {
        for (State s : new State[] {State.empty(), State.busy()}) {
            s.answers(1, "count", 1);
            s.answers(1, "set", 0, 0, 1);
            s.answers(1, "set", 0, 0, 2);
            s.refuses(BAD, "set", 0, 0, 0);
            s.refuses(BAD, "set", 0, 0, 3);
            s.refuses(BAD, "set", 0, 0, -1);
            s.refuses(BAD, "set", 0, 0, MIN);
            s.refuses(BAD, "set", 0, 0, MAX);
        }
        State two = State.two().with("set", 0, 0, 2);
        two.answers(2, "count", 1);
        two.answers(2, "set", 0, 0, 2);
        two.answers(2, "set", 0, 0, 1);
        two.refuses(BAD, "set", 0, 0, 3);
        two.refuses(BAD, "set", 0, 0, 0);
    }

    private static void ofDoorsOfDoesNotMatter() {
        for (int of : new int[] {MIN, -1, 0, 1, 2, 4, 5, 9, MAX}) {
            State.empty().answers(1, "set", 0, of, 2);
            State.busy().answers(1, "set", 0, of, 2);
            State.two().refuses(BAD, "set", 0, of, 3);
        }
    }

    private static void setTakesEachBetweenItsBounds() {
        int[] least = {0, 0, 0, 4, 0, 0};
        int[] most = {0, 9, 9, 9, 5, 100};
        int[] was = {0, 4, 2, 6, 5, 100};
        for (int what = 1; what <= 5; what++) {
            for (int v = -3; v <= 103; v++) {
                GetsOutFirst x = with(0, 0, 10, 3, 42, 365);
                boolean right = v >= least[what] && v <= most[what];
                Check.due("3: set(" + what + ", 1, " + v + ")", x.set(what, 1, v), right ? was[what] : BAD);
                int[] then = {3, 4, 2, 6, 5, 100, 3};
                then[what] = right ? v : was[what];
                toldIs("3: after set(" + what + ", 1, " + v + ")", x, 1, then);
                toldIs("3: after set(" + what + ", 1, " + v + ")", x, 0, 0, 0, 0, 1, 0, 100, 0);
            }
        }
    }

    private static void toIsAboveFrom() {
        for (int from = 0; from <= 8; from++) {
            for (int to = -1; to <= 11; to++) {
                GetsOutFirst x = with(0, 0, 100 * from + 90);
                boolean right = to > from && to <= 9;
                Check.due("3: FROM " + from + ", TO " + to, x.set(3, 0, to), right ? 9 : BAD);
                Check.due("3: FROM " + from + ", TO then", x.told(0, 3), right ? to : 9);
            }
        }
    }

    private static void setRefusesWhatIsNone() {
        for (int what : new int[] {MIN, -2, -1, 6, 7, MAX}) {
            for (int v : new int[] {0, 1, 2}) {
                State.two().refuses(BAD, "set", what, 0, v);
            }
        }
    }

    private static void setRefusesWhoIsNone() {
        for (int n = 0; n <= 5; n++) {
            State s = new State(n + " riders");
            for (int r = 0; r < n; r++) {
                s.with("rider", 0, 0, 90 + r);
            }
            for (int what = 1; what <= 5; what++) {
                for (int of : new int[] {MIN, -1, n, n + 1, 5, MAX}) {
                    s.answers(BAD, "set", what, of, what == 4 ? 5 : 9);
                }
                if (n > 0) {
                    s.answers(what == 3 ? 9 : what == 4 ? n - 1 : what == 5 ? 100 : 0, "set", what, n - 1, what == 4 ? 5 : 9);
                }
            }
        }
    }

    private static void setRefusesInOrder() {
        // PLACE 0 is taken by RIDER 0 from 0 to 9, PLACE 4 by RIDER 1 from 0 to 2, by RIDER 2 from 5
        State s = State.two().with("rider", 0, 0, 594);
        s.refuses(STATE, "set", 4, 1, 0);
        s.refuses(STATE, "set", 3, 1, 6);
        s.refuses(STATE, "set", 3, 1, 9);
        s.answers(2, "set", 3, 1, 5);
        s.refuses(BAD, "set", 3, 1, 10);
        s.refuses(BAD, "set", 3, 1, 0);
        s.refuses(BAD, "set", 4, 3, 0);
        s.refuses(BAD, "set", 3, 3, 9);
        s.refuses(BAD, "set", 4, 1, 6);
        s.refuses(BAD, "set", 4, 1, -1);
    }

    private static void aRefusedSetChangesNothing() {
        for (int v : FAR) {
            for (int what = 1; what <= 5; what++) {
                State.busy().refuses(BAD, "set", what, 1, v);
            }
        }
        for (State s : new State[] {State.three(), State.busy(), State.fullTexts()}) {
            s.refuses(BAD, "set", 1, 0, 10);
            s.refuses(BAD, "set", 2, 0, -1);
            s.refuses(BAD, "set", 3, 0, 10);
            s.refuses(BAD, "set", 4, 0, 6);
            s.refuses(BAD, "set", 5, 0, 101);
        }
        State.busy().refuses(STATE, "set", 4, 0, 1);
        State.busy().refuses(STATE, "set", 4, 1, 0);
    }

    private static void toldRefuses() {
        for (int what : new int[] {MIN, -1, 7, 8, MAX}) {
            State.busy().refuses(BAD, "told", 0, what);
            State.busy().refuses(BAD, "told", 4, what);
        }
        for (int r : new int[] {MIN, -1, 5, 6, MAX}) {
            for (int what = 0; what <= 6; what++) {
                State.busy().answers(BAD, "told", r, what);
            }
        }
        State.two().answers(BAD, "told", 2, 0);
        State.two().answers(2, "told", 1, 3);
        State.two().answers(0, "told", 1, 6);
    }

    /** LETS, by each KIND, NUMBER and SIZE, in each ROW, of each SIZE. */
    private static void letsByEveryNumber() {
        for (int kind = 0; kind < 6; kind++) {
            for (int place = 0; place < 6; place++) {
                for (int what = 0; what < 100; what++) {
                    GetsOutFirst x = with(0, 0, 890 + (place + 1) % 6, kind, what, 890 + place);
                    for (int z = 0; z < 10; z++) {
                        x.set(2, 0, z);
                        boolean slim = z < what / 10;
                        boolean lets = switch (kind) {
                            case 1 -> slim;
                            case 3 -> place < 2 || slim;
                            case 5 -> z + what % 10 < 10 || slim;
                            default -> false;
                        };
                        Check.due("5: KIND " + kind + ", " + what + " on " + place + ", SIZE " + z, x.lets(1, 0), lets ? 1 : 0);
                    }
                }
            }
        }
    }

    private static void letsDoesNotMindWhereTheyStand() {
        for (int place = 0; place < 6; place++) {
            for (int other = 0; other < 6; other++) {
                GetsOutFirst x = with(1, 50, 10 + place, 1, 4, 890 + other);
                Check.due("5: " + place + " lets " + other, x.lets(0, 1), 1);
                Check.due("5: " + other + " doesn't let " + place, x.lets(1, 0), 0);
                x.set(0, 0, 2);
                Check.due("5: " + place + " lets " + other + " with two doors", x.lets(0, 1), 1);
            }
        }
    }

    private static void letsRefuses() {
        for (int r = 0; r < 5; r++) {
            State.busy().answers(BAD, "lets", r, r);
            for (int none : new int[] {MIN, -1, 5, 6, MAX}) {
                State.busy().answers(BAD, "lets", r, none);
                State.busy().answers(BAD, "lets", none, r);
                State.busy().answers(BAD, "lets", none, none);
            }
        }
        State.two().answers(BAD, "lets", 2, 2);
        State.two().answers(BAD, "lets", 2, 0);
        State.two().answers(BAD, "lets", 0, 2);
        State.busy().refuses(BAD, "lets", 3, 3);
        State.busy().refuses(BAD, "lets", 3, 5);
    }

    private static void whoWentIsNone() {
        State s = State.two().with("image").with("rider", 1, 23, 91).with("back");
        s.refuses(BAD, "told", 2, 0);
        s.refuses(BAD, "set", 1, 2, 0);
        s.refuses(BAD, "set", 4, 2, 5);
        s.refuses(BAD, "lets", 2, 0);
        s.refuses(BAD, "lets", 0, 2);
        s.answers(2, "rider", 0, 0, 91);
    }
}
