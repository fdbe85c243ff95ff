import java.math.BigInteger;

/** The bounds of promises 11 to 16: none, one and five riders, like ones, and what is not asked for. */
public final class StandBoundsTest {
    private static final int NONE = GetsOutFirst.NONE, BAD = GetsOutFirst.BAD;
    private static final long NO = GetsOutFirst.NO;
    private static final int MIN = Integer.MIN_VALUE, MAX = Integer.MAX_VALUE;
    private static final String FREE_MOVES = "steps 5;late 1;moves 0;";

    public static void main(String[] args) {
        standOfNobody();
        standOfOne();
        standTellsWhoIsThere();
        standOfFive();
        likeWaysToStand();
        movesBetween0And99();
        whereTwoCanStand();
        standChangesNothing();
        oneTellsWhoIsThere();
        oneOfLikePlacesTheFirst();
        oneAmongFour();
        changeTellsTwoThings();
        changeOfTooFew();
        changeIsLessThanNow();
        changeAsAllCanStand();
        secondTellsTwoThings();
        secondDoesNotMindTheDoors();
        walkOfNoneOneAndFive();
        standsCountsThoseWhoMove();
        standsTakesTheFirstOfLikeOnes();
        meanTellsTwoThings();
        meanOfNobody();
        meanOfChances0And100();
        meanOfAllSets();
        meanInLowestTerms();
        Check.end("StandBoundsTest");
    }

    private static GetsOutFirst liftOf(int... ways) {
        GetsOutFirst x = new GetsOutFirst();
        for (int i = 0; i < ways.length; i++) {
            Check.due("rider " + ways[i], x.rider(0, 0, ways[i]), i);
        }
        return x;
    }

    private static State withRiders(int n) {
        State s = new State(n + " riders");
        for (int r = 0; r < n; r++) {
            s.with("rider", r, 10 * r + r, 90 + r);
        }
        return s;
    }

    private static void standsAt(String what, GetsOutFirst x, int total, int... places) {
        Check.due("11: " + what, x.stand(NONE), total);
        for (int r = 0; r < places.length; r++) {
            Check.due("11: " + what + ", RIDER " + r, x.stand(r), places[r]);
        }
        Check.due("11: " + what + ", none more", x.stand(places.length), -100);
    }

    private static void standOfNobody() {
        standsAt("nobody", new GetsOutFirst(), 0);
        for (int what : new int[] {MIN, -100, -2, 0, 1, 5, MAX}) {
            State.empty().refuses(-100, "stand", what);
        }
        Check.due("15: nobody", new GetsOutFirst().stands(), 0);
    }

    private static void standOfOne() {
        for (int place = 0; place < 6; place++) {
            standsAt("one stays on " + place, liftOf(90 + place), 0, place);
            GetsOutFirst x = liftOf(90 + place);
            Check.rule(x, FREE_MOVES);
            standsAt("moving is free, so the first PLACE", x, 0, 0);
            Check.due("15: whether it moves", x.stands(), place == 0 ? 0 : 1);
            Check.due("15: it stands there", x.told(0, 4), 0);
        }
    }

    private static void standTellsWhoIsThere() {
        for (int n = 1; n <= 5; n++) {
            State s = withRiders(n);
            for (int what : new int[] {MIN, MIN + 1, -100, -3, -2, n, n + 1, 6, MAX}) {
                s.refuses(-100, "stand", what);
            }
            for (int r = 0; r < n; r++) {
                Check.holds("11: RIDER " + r + " of " + n, s.make().stand(r) >= 0);
            }
            Check.holds("11: COST of " + n, s.make().stand(-1) >= 0);
        }
    }

    private static void standOfFive() {
        GetsOutFirst x = liftOf(90, 91, 92, 93, 94);
        Check.rule(x, "steps 5;late 1;moves 1;");
        // at floor 0 both 0 and 2, and 1, make way: 15; 0 and 4 changed, and 1 behind 3, nobody does
        Check.due("11: five now", x.ride(0), 15);
        standsAt("five", x, 3, 4, 5, 2, 3, 0);
    }

    private static void likeWaysToStand() {
        GetsOutFirst x = liftOf(95, 94, 93, 92, 91);
        Check.rule(x, FREE_MOVES);
        // with RIDER 0 on 0 or 1 nobody could stand behind it for nothing, so there would be no room
        standsAt("five, moving is free", x, 0, 2, 0, 5, 3, 1);
        Check.rule(x, "steps 0;late 0;moves 0;");
        standsAt("nothing costs", x, 0, 0, 1, 2, 3, 4);
        Check.rule(x, "steps 0;late 0;moves 1;");
        standsAt("moving alone costs", x, 0, 5, 4, 3, 2, 1);
    }

    private static void movesBetween0And99() {
        GetsOutFirst x = liftOf(90, 24);
        Check.rule(x, "steps 99;late 0;moves 9999;");
        // two steps cost 198, a move 99
        standsAt("a move costs 99 at most", x, 99, 0, 1);
        Check.rule(x, "steps 99;late 0;moves -9999;");
        standsAt("a move costs 0 at least", x, 0, 0, 1);
        Check.rule(x, "steps 49;late 0;moves 98;");
        standsAt("as dear as to stay, but earlier", x, 98, 0, 1);
        Check.rule(x, "steps 49;late 0;moves 99;");
        standsAt("dearer than to stay", x, 98, 0, 4);
    }

    private static void whereTwoCanStand() {
        GetsOutFirst x = liftOf(50, 591);
        Check.rule(x, FREE_MOVES);
        standsAt("one gets in where the other gets out", x, 0, 0, 0);
        x.set(3, 0, 6);
        standsAt("one floor together", x, 0, 0, 1);
        x = liftOf(35, 394, 13);
        Check.rule(x, FREE_MOVES);
        standsAt("two of three on one PLACE", x, 0, 0, 0, 1);
    }

    private static void standChangesNothing() {
        for (State s : new State[] {State.two(), State.three(), State.busy()}) {
            s.refuses(s.make().stand(-1), "stand", -1);
            s.refuses(s.make().stand(1), "stand", 1);
            s.refuses(s.make().one(0, 0), "one", 0, 0);
            s.refuses(s.make().one(1, 1), "one", 1, 1);
            s.refuses(s.make().change(0), "change", 0);
            s.refuses(s.make().second(0), "second", 0);
            s.refuses(s.make().second(1), "second", 1);
            s.refuses(s.make().mean(0, 0), "mean", 0, 0);
            s.refuses(s.make().mean(1, 1), "mean", 1, 1);
        }
    }

    private static void oneTellsWhoIsThere() {
        for (int n = 0; n <= 5; n++) {
            State s = withRiders(n);
            for (int r : new int[] {MIN, -2, -1, n, n + 1, 6, MAX}) {
                s.refuses(BAD, "one", r, 0);
                s.answers(BAD, "one", r, 1);
                s.answers(BAD, "one", r, 2);
            }
            for (int what : new int[] {MIN, -1, 2, 3, MAX}) {
                s.refuses(BAD, "one", 0, what);
                s.answers(BAD, "one", n - 1, what);
            }
            for (int r = 0; r < n; r++) {
                Check.holds("12: RIDER " + r + " of " + n, s.make().one(r, 0) >= 0 && s.make().one(r, 1) >= 0);
            }
        }
    }

    private static void oneOfLikePlacesTheFirst() {
        for (int place = 0; place < 6; place++) {
            GetsOutFirst x = liftOf(90 + place);
            Check.due("12: one stays on " + place, x.one(0, 0), place);
            Check.due("12: for nothing", x.one(0, 1), 0);
            Check.rule(x, FREE_MOVES);
            Check.due("12: moving is free, from " + place, x.one(0, 0), 0);
            Check.due("12: for nothing too", x.one(0, 1), 0);
        }
        GetsOutFirst x = liftOf(90, 24);
        Check.rule(x, "steps 5;late 0;moves 10;");
        Check.due("12: as dear as to stay, and behind", x.one(0, 0), 0);
        Check.due("12: as dear as to stay, and ahead", x.one(1, 0), 1);
        Check.rule(x, "steps 5;late 0;moves 11;");
        Check.due("12: dearer than to stay", x.one(1, 0), 4);
        Check.due("12: what staying costs", x.one(1, 1), 10);
        Check.rule(x, "steps 5;late 0;moves 9;");
        Check.due("12: cheaper than to stay", x.one(1, 1), 9);
    }

    private static void oneAmongFour() {
        GetsOutFirst x = liftOf(90, 91, 92, 93, 94);
        Check.rule(x, FREE_MOVES);
        // only PLACE 5 is free: by standing there RIDER 0 makes way for none
        Check.due("12: the PLACE that is free", x.one(0, 0), 5);
        Check.due("12: COST then", x.one(0, 1), 10);
        Check.due("12: RIDER 4 changes the side", x.one(4, 1), 15);
        Check.due("12: for nothing, so it stays", x.one(4, 0), 4);
        // behind both of the last row it would be in nobody's way, but there is no PLACE
        x = liftOf(90, 54, 55);
        Check.rule(x, FREE_MOVES);
        Check.due("12: in the way wherever it stands", x.one(0, 1), 10);
        Check.due("12: so on the first PLACE", x.one(0, 0), 0);
    }

    private static void changeTellsTwoThings() {
        for (int what : new int[] {MIN, -2, -1, 2, 3, MAX}) {
            State.empty().refuses(BAD, "change", what);
            State.busy().refuses(BAD, "change", what);
        }
    }

    private static void changeOfTooFew() {
        for (int n = 0; n < 2; n++) {
            withRiders(n).answers(NONE, "change", 0);
            withRiders(n).answers(0, "change", 1);
        }
    }

    private static void changeIsLessThanNow() {
        // side by side: nothing is less than nothing
        GetsOutFirst x = liftOf(90, 91);
        Check.due("13: nothing to win", x.change(0), NONE);
        Check.due("13: as now", x.change(1), 0);
        // 0 steps out for 1 at 0; changed, 1 would step out for 0 at 2
        x = liftOf(20, 94);
        Check.due("13: now", x.ride(0), 5);
        Check.due("13: as dear as now", x.change(0), NONE);
        Check.due("13: as dear as now, COST", x.change(1), 5);
        Check.rule(x, "steps 5+rider;late 0;moves 0;");
        Check.due("13: dearer than now", x.change(0), NONE);
        Check.due("13: dearer than now, COST", x.change(1), 5);
        Check.rule(x, "steps 5-rider;late 0;moves 0;");
        Check.due("13: 1 less than now", x.change(0), 1);
        Check.due("13: 1 less than now, COST", x.change(1), 4);
        // 0, 1 and 2 have one PLACE at their times, so that nobody else can stand there
        x = liftOf(121, 231, 341, 90, 24);
        Check.due("13: two of five now", x.ride(0), 10);
        Check.due("13: the last two", x.change(0), 34);
        Check.due("13: COST then", x.change(1), 0);
    }

    private static void changeAsAllCanStand() {
        GetsOutFirst x = liftOf(90, 24, 294);
        Check.due("13: 0 makes way at 0 and at 2", x.ride(0), 10);
        Check.due("13: 0 can't stand on 4 with the other one there", x.change(0), NONE);
        x.set(3, 0, 2);
        Check.due("13: 0 gets out ere 2 gets in", x.ride(0), 5);
        Check.due("13: so 0 and 1 change", x.change(0), 1);
        Check.due("13: COST then", x.change(1), 0);
        x.set(3, 0, 3);
        Check.due("13: a floor later it can't again", x.change(0), NONE);
    }

    private static void secondTellsTwoThings() {
        for (int what : new int[] {MIN, -100000, -2, -1, 2, 3, MAX}) {
            State.empty().refuses(-100000, "second", what);
            State.busy().refuses(-100000, "second", what);
        }
    }

    private static void secondDoesNotMindTheDoors() {
        State.empty().answers(0, "second", 0);
        withRiders(1).answers(0, "second", 0);
        for (int doors = 1; doors <= 2; doors++) {
            GetsOutFirst x = liftOf(90, 24);
            x.set(0, 0, doors);
            Check.due("14: COST with 1 DOOR less COST with 2", x.second(0), 10);
            Check.due("14: DOORS stay", x.count(1), doors);
            Check.due("14: COST stays", x.ride(0), doors == 1 ? 10 : 0);
            x = liftOf(94, 90);
            x.set(0, 0, doors);
            Check.due("14: no less with 2", x.second(0), 0);
        }
    }

    private static void walkOfNoneOneAndFive() {
        State.empty().answers(NONE, "second", 1);
        withRiders(1).answers(0, "second", 1);
        new State("of like ones").with("rider", 0, 0, 90).with("rider", 0, 0, 91).answers(0, "second", 1);
        int[] others = {132, 574, 891, 785};
        for (int walker = 0; walker < 5; walker++) {
            GetsOutFirst x = new GetsOutFirst();
            for (int r = 0; r < 5; r++) {
                x.rider(0, 0, r == walker ? 90 : others[r < walker ? r : r - 1]);
            }
            Check.due("14: five", x.count(0), 5);
            Check.due("14: who is in the way of two", x.second(1), walker);
            Check.due("14: nobody went", x.count(0), 5);
            x.set(0, 0, 2);
            Check.due("14: with two doors it is nobody, so the first", x.second(1), 0);
        }
    }

    private static void standsCountsThoseWhoMove() {
        State.empty().answers(0, "stands");
        for (State s : new State[] {State.two(), State.three(), State.busy(), State.fullTexts()}) {
            GetsOutFirst x = s.make();
            int n = x.count(0);
            int[] was = new int[n];
            int[] then = new int[n];
            int moved = 0;
            for (int r = 0; r < n; r++) {
                was[r] = x.told(r, 4);
                then[r] = x.stand(r);
                moved += was[r] == then[r] ? 0 : 1;
            }
            Check.due(s.name + ": stands()", x.stands(), moved);
            for (int r = 0; r < n; r++) {
                Check.due(s.name + ": where " + r + " stands", x.told(r, 4), then[r]);
            }
            int rest = x.ride(0);
            Check.holds(s.name + ": then COST is no more than what STAND told", rest <= s.make().stand(-1));
        }
    }

    private static void standsTakesTheFirstOfLikeOnes() {
        GetsOutFirst x = liftOf(95, 94, 93, 92, 91);
        Check.rule(x, "steps 0;late 0;moves 0;");
        Check.due("15: all five move", x.stands(), 5);
        int[] due = {0, 1, 2, 3, 4};
        for (int r = 0; r < 5; r++) {
            Check.due("15: RIDER " + r, x.told(r, 4), due[r]);
        }
        Check.due("15: then nobody moves", x.stands(), 0);
    }

    private static void meanTellsTwoThings() {
        for (State s : new State[] {State.empty(), State.two(), State.busy()}) {
            for (int none : new int[] {MIN, -1, 2, 3, MAX}) {
                for (int right = 0; right < 2; right++) {
                    s.refuses(NO, "mean", none, right);
                    s.refuses(NO, "mean", right, none);
                }
                s.refuses(NO, "mean", none, none);
            }
        }
    }

    private static void meanOfNobody() {
        State s = State.empty();
        s.answers(0, "mean", 0, 0);
        s.answers(1, "mean", 0, 1);
        s.answers(1, "mean", 1, 0);
        s.answers(1, "mean", 1, 1);
    }

    private static GetsOutFirst steppers(int chance, int other) {
        GetsOutFirst x = liftOf(90, 24);
        x.set(5, 0, chance);
        x.set(5, 1, other);
        return x;
    }

    private static void meanOfChances0And100() {
        int[][] due = {{0, 0, 0, 1, 1, 1}, {0, 100, 0, 1, 1, 1}, {100, 0, 0, 1, 1, 1}, {100, 100, 10, 1, 0, 1},
            {1, 1, 1, 1000, 9999, 10000}, {99, 99, 9801, 1000, 199, 10000}, {100, 1, 1, 10, 99, 100}, {50, 100, 5, 1, 1, 2},
            {99, 0, 0, 1, 1, 1}, {100, 99, 99, 10, 1, 100}};
        for (int[] d : due) {
            GetsOutFirst x = steppers(d[0], d[1]);
            for (int part = 0; part < 4; part++) {
                Check.due("16: CHANCES " + d[0] + " and " + d[1] + ", " + part, x.mean(part / 2, part % 2), d[2 + part]);
            }
        }
    }

    private static void meanOfAllSets() {
        int[][] riders = {{2, 38, 95}, {0, 5, 90}, {4, 27, 92}, {5, 68, 163}, {3, 49, 274}};
        meanOfAllSets("steps size+3*inside;late 1+row;moves 3;", riders, 37, 81, 50, 99, 4);
        meanOfAllSets("steps size+3*inside;late 1+row;moves 3;", riders, 100, 0, 100, 50, 100);
        // the dearest that can be
        int[][] prams = {{4, 9, 90}, {4, 9, 191}, {4, 9, 282}, {4, 9, 373}, {4, 9, 464}};
        meanOfAllSets("steps 9999;late 9999;moves 9999;", prams, 99, 99, 99, 99, 99);
        meanOfAllSets("steps 9999;late 9999;moves 9999;", prams, 1, 1, 1, 1, 1);
        meanOfAllSets("steps 9999;late 9999;moves 9999;", prams, 100, 100, 100, 100, 100);
    }

    /** Each set of RIDERS in a lift of its own, by a rule that does not ask for their numbers. */
    private static void meanOfAllSets(String rule, int[][] riders, int... chances) {
        for (int n = 0; n <= 5; n++) {
            for (int doors = 1; doors <= 2; doors++) {
                BigInteger cost = BigInteger.ZERO;
                BigInteger free = BigInteger.ZERO;
                for (int set = 0; set < 1 << n; set++) {
                    GetsOutFirst some = liftOfSet(rule, doors, riders, set);
                    BigInteger weight = BigInteger.ONE;
                    for (int r = 0; r < n; r++) {
                        boolean there = (set >> r & 1) != 0;
                        weight = weight.multiply(BigInteger.valueOf(there ? chances[r] : 100 - chances[r]));
                    }
                    cost = cost.add(weight.multiply(BigInteger.valueOf(some.ride(0))));
                    free = free.add(some.ride(1) == 0 ? weight : BigInteger.ZERO);
                }
                GetsOutFirst x = liftOfSet(rule, doors, riders, (1 << n) - 1);
                for (int r = 0; r < n; r++) {
                    x.set(5, r, chances[r]);
                }
                meanIs(n + " riders, " + doors + " doors", x, 0, cost, BigInteger.valueOf(100).pow(n));
                meanIs(n + " riders, " + doors + " doors, free", x, 1, free, BigInteger.valueOf(100).pow(n));
            }
        }
    }

    private static GetsOutFirst liftOfSet(String rule, int doors, int[][] riders, int set) {
        GetsOutFirst x = new GetsOutFirst();
        Check.rule(x, rule);
        x.set(0, 0, doors);
        for (int r = 0; r < riders.length; r++) {
            if ((set >> r & 1) != 0) {
                Check.holds("16: a rider comes", x.rider(riders[r][0], riders[r][1], riders[r][2]) >= 0);
            }
        }
        return x;
    }

    private static void meanIs(String what, GetsOutFirst x, int which, BigInteger above, BigInteger below) {
        BigInteger common = above.gcd(below);
        Check.due("16: " + what + ", above", x.mean(which, 0), above.divide(common).longValueExact());
        Check.due("16: " + what + ", below", x.mean(which, 1), below.divide(common).longValueExact());
    }

    private static void meanInLowestTerms() {
        for (int chance = 0; chance <= 100; chance++) {
            GetsOutFirst x = steppers(chance, 100);
            meanIs("CHANCE " + chance, x, 0, BigInteger.valueOf(10L * chance), BigInteger.valueOf(100));
            meanIs("CHANCE " + chance + ", free", x, 1, BigInteger.valueOf(100 - chance), BigInteger.valueOf(100));
        }
    }
}
