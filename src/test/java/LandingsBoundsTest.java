import java.math.BigInteger;

/** The bounds of promises 17 to 24: sheets of none, ten and more floors, seeds that wrap, images that are not there. */
public final class LandingsBoundsTest {
    private static final int NONE = GetsOutFirst.NONE, BAD = GetsOutFirst.BAD, STATE = GetsOutFirst.STATE;
    private static final long NO = GetsOutFirst.NO;
    private static final int MIN = Integer.MIN_VALUE, MAX = Integer.MAX_VALUE;
    private static final int[] NO_SHEETS = {MIN, -2, -1, 4, 5, MAX};
    private static final int[] NO_PARTS = {MIN, -1, 2, 3, MAX};

    public static void main(String[] args) {
        landingsOfSheetsThatAreNone();
        landingsOfEachSize();
        landingsAtEachFloor();
        landingsOfValuesThatWrap();
        landingsOfNobody();
        seenRefusesInOrder();
        seenOfEachSize();
        goingIsAboveFrom();
        stoodAndKindsAtTheirBounds();
        seenAsAllCanStand();
        seenChangesNothing();
        filmRefuses();
        filmOfEachSize();
        filmTakesAnySheet();
        drawnSeedsWrap();
        drawnGoesRound();
        chanceRefuses();
        chanceOf1And20Seeds();
        chanceSeedsWrap();
        chanceInLowestTerms();
        anImageThatIsNotThere();
        anImageOfNoneAndOfFive();
        anImageKeepsEachThing();
        anImageIsKeptForGood();
        whoCameSinceGoes();
        countRefuses();
        countsAtTheirBounds();
        Check.end("LandingsBoundsTest");
    }

    private static GetsOutFirst liftOf(int... ways) {
        GetsOutFirst x = new GetsOutFirst();
        for (int i = 0; i < ways.length; i++) {
            Check.due("rider " + ways[i], x.rider(0, 0, ways[i]), i);
        }
        return x;
    }

    private static void landingsOfSheetsThatAreNone() {
        for (int sheet : NO_SHEETS) {
            State.busy().refuses(BAD, "landings", sheet);
            State.empty().refuses(BAD, "landings", sheet);
        }
        for (int sheet = 0; sheet < 4; sheet++) {
            State.empty().refuses(-11, "landings", sheet);
        }
        State.busy().refuses(-11, "landings", 3);
        State.three().refuses(BAD, "landings", 0);
        State.three().refuses(BAD, "landings", 2);
        State.three().refuses(-11, "landings", 3);
    }

    private static void landingsOfEachSize() {
        for (int sort = 0; sort < 3; sort++) {
            for (int n = 0; n <= 40; n++) {
                // nobody ever steps out, and the sheet is all 0
                State s = new State("size " + n).with("rider", 0, 0, 90).with("sheet", 3, sort, n);
                s.answers(n <= 10 ? NONE : BAD, "landings", 3);
                s.answers(n <= 10 ? 1022 : BAD, "seen", 3, 0, 0);
                s.answers(n <= 10 ? 63 : BAD, "seen", 3, 0, 1);
                s.answers(n <= 10 ? 63 : BAD, "seen", 3, 0, 2);
            }
        }
    }

    /** One at the door makes way at 0, and whenever one behind gets out or in. */
    private static void landingsAtEachFloor() {
        GetsOutFirst x = liftOf(90, 12, 234, 452, 784);
        int[] due = {1, 1, 1, 1, 1, 1, 0, 1, 1, 0};
        for (int sort = 0; sort < 3; sort++) {
            x.sheet(0, sort, 10);
            for (int f = 0; f < 10; f++) {
                Check.due("10: who steps out at " + f, x.floor(f, 0), due[f]);
                x.cell(0, f, due[f]);
            }
            Check.due("17: as it is", x.landings(0), NONE);
            for (int f = 9; f >= 0; f--) {
                x.cell(0, f, 1 - due[f]);
                Check.due("17: otherwise at " + f, x.landings(0), f);
            }
        }
        for (int n = 0; n <= 10; n++) {
            x.film(1, n);
            Check.due("17: the first " + n, x.landings(1), NONE);
        }
    }

    private static void landingsOfValuesThatWrap() {
        long[] values = {1, 0, 2, 3, 32, 33, -1, 255, 256, 257, -255, 511, 65535, 65536, 65537, -65535, MAX, MIN, MIN + 1};
        for (int sort = 0; sort < 3; sort++) {
            for (long v : values) {
                GetsOutFirst x = liftOf(90, 12);
                x.sheet(2, sort, 1);
                x.cell(2, 0, (int) v);
                long mask = sort == 0 ? 255 : sort == 1 ? 65535 : 0xffffffffL;
                Check.due("17: " + v + " in sort " + sort, x.landings(2), (v & mask) == 1 ? NONE : 0);
            }
        }
    }

    private static void landingsOfNobody() {
        GetsOutFirst x = new GetsOutFirst();
        x.sheet(0, 2, 10);
        Check.due("17: nobody steps out", x.landings(0), NONE);
        x.cell(0, 9, -1);
        Check.due("17: somebody did at 9", x.landings(0), 9);
        x.sheet(0, 1, 0);
        Check.due("17: of no FLOOR", x.landings(0), NONE);
        Check.due("19: a film of nobody", x.film(0, 10), 10);
        Check.due("17: it is so", x.landings(0), NONE);
    }

    private static void seenRefusesInOrder() {
        State s = State.busy();
        for (int none : NO_SHEETS) {
            s.refuses(BAD, "seen", none, 0, 0);
        }
        for (int none : new int[] {MIN, -1, 5, 6, MAX}) {
            s.refuses(BAD, "seen", 0, none, 0);
            s.answers(BAD, "seen", 3, none, 0);
        }
        for (int none : new int[] {MIN, -1, 3, 4, MAX}) {
            s.refuses(BAD, "seen", 0, 0, none);
            s.answers(BAD, "seen", 3, 0, none);
        }
        for (int what = 0; what < 3; what++) {
            s.refuses(-11, "seen", 3, 0, what);
            s.refuses(-11, "seen", 3, 4, what);
            State.empty().answers(BAD, "seen", 0, 0, what);
            State.two().answers(BAD, "seen", 0, 2, what);
            State.two().answers(-11, "seen", 0, 1, what);
            State.three().answers(BAD, "seen", 0, 2, what);
            State.three().answers(BAD, "seen", 2, 2, what);
        }
    }

    private static void seenOfEachSize() {
        State s = State.two().with("sheet", 0, 0, 11);
        s.refuses(BAD, "seen", 0, 0, 0);
        s.refuses(BAD, "seen", 0, 1, 1);
        s.refuses(BAD, "seen", 0, 1, 2);
        s = State.two().with("film", 0, 10);
        s.answers(1 << 2, "seen", 0, 1, 0);
        s = State.two().with("film", 0, 3);
        s.answers(1 << 2, "seen", 0, 1, 0);
        s = State.two().with("film", 0, 2);
        s.answers(1020, "seen", 0, 1, 0);
        s = State.two().with("film", 0, 1);
        s.answers(1022, "seen", 0, 1, 0);
        s = State.two().with("film", 0, 0);
        s.answers(1022, "seen", 0, 1, 0);
    }

    private static void goingIsAboveFrom() {
        for (int from = 0; from <= 8; from++) {
            for (int to = from + 1; to <= 9; to++) {
                GetsOutFirst x = liftOf(100 * from + 10 * to);
                x.film(0, 10);
                Check.due("18: GOING of one from " + from, x.seen(0, 0, 0), 1023 & -1 << from + 1);
                // one at the door makes way where it gets out
                x = liftOf(100 * from + 10 * to + 2, 90);
                x.film(0, 10);
                Check.due("18: GOING of one behind, from " + from + " to " + to, x.seen(0, 0, 0), 1 << to);
                x.cell(0, 9, 32);
                Check.due("18: GOING of none", x.seen(0, 0, 0), 0);
            }
        }
    }

    private static void stoodAndKindsAtTheirBounds() {
        for (int place = 0; place < 6; place++) {
            GetsOutFirst x = liftOf(90 + place);
            x.film(0, 10);
            Check.due("18: STOOD of one alone on " + place, x.seen(0, 0, 1), 63);
            Check.due("18: KINDS of one alone on " + place, x.seen(0, 0, 2), 63);
            Check.due("18: GOING of one alone on " + place, x.seen(0, 0, 0), 1022);
        }
        GetsOutFirst x = liftOf(90, 92, 94, 91, 93);
        x.film(0, 0);
        for (int r = 0; r < 5; r++) {
            // its own PLACE and the only one that is free
            Check.due("18: STOOD of " + r + " among five", x.seen(0, r, 1), 1 << x.told(r, 4) | 32);
            Check.due("18: KINDS of " + r + " among five", x.seen(0, r, 2), 63);
        }
        x.film(0, 1);
        Check.due("18: STOOD of 4, at 0", x.seen(0, 4, 1), 8 + 32);
        Check.due("18: STOOD of 2, at 0", x.seen(0, 2, 1), 16);
        x.sheet(0, 2, 1);
        x.cell(0, 0, 32);
        for (int what = 0; what < 3; what++) {
            Check.due("18: of none", x.seen(0, 0, what), 0);
        }
    }

    private static void seenAsAllCanStand() {
        GetsOutFirst x = liftOf(30, 690, 341);
        x.film(0, 0);
        Check.due("18: GOING till another one comes", x.seen(0, 0, 0), 2 + 4 + 8 + 16 + 32 + 64);
        Check.due("18: STOOD of one who is there in between", x.seen(0, 2, 1), 63);
        x.set(3, 0, 4);
        Check.due("18: STOOD then", x.seen(0, 2, 1), 62);
        x.set(3, 0, 3);
        x.set(3, 2, 7);
        Check.due("18: STOOD, later", x.seen(0, 2, 1), 62);
    }

    private static void seenChangesNothing() {
        State s = State.busy();
        for (int r = 0; r < 5; r++) {
            for (int what = 0; what < 3; what++) {
                s.refuses(s.make().seen(1, r, what), "seen", 1, r, what);
            }
        }
        s.refuses(NONE, "landings", 2);
        s.refuses(s.make().drawn(77), "drawn", 77);
        s.refuses(s.make().chance(77, 20, 0), "chance", 77, 20, 0);
    }

    private static void filmRefuses() {
        for (State s : new State[] {State.empty(), State.three(), State.busy()}) {
            for (int sheet : NO_SHEETS) {
                s.refuses(BAD, "film", sheet, 5);
                s.refuses(BAD, "film", sheet, 11);
            }
            for (int n : new int[] {MIN, -10, -1, 11, 12, 40, 41, MAX}) {
                for (int sheet = 0; sheet < 4; sheet++) {
                    s.refuses(BAD, "film", sheet, n);
                }
            }
        }
    }

    private static void filmOfEachSize() {
        int[] due = {1, 1, 1, 1, 1, 1, 0, 1, 1, 0};
        for (int n = 0; n <= 10; n++) {
            GetsOutFirst x = liftOf(90, 12, 234, 452, 784);
            Check.due("19: film of " + n, x.film(3, n), n);
            Check.due("19: its size", x.cell(3, n, 0), -12);
            Check.due("19: its sort", x.riders(3, 0, 0, 0), 0);
            Check.due("19: as it is", x.landings(3), NONE);
            for (int f = 0; f < n; f++) {
                x.sheet(2, 0, 1);
                x.copy(3, f, 2, 0, 1);
                // by a sheet of one, that would be at floor 0, where RIDER 0 steps out
                Check.due("19: who steps out in " + f, x.landings(2), due[f] == 1 ? NONE : 0);
            }
        }
    }

    private static void filmTakesAnySheet() {
        for (int sheet = 0; sheet < 4; sheet++) {
            State s = State.busy().with("film", sheet, 7);
            s.answers(NONE, "landings", sheet);
            s.answers(1, "cell", sheet, 6, 0);
            s.answers(-12, "cell", sheet, 7, 0);
            s.answers(0, "riders", sheet, 0, 0, 0);
            s.answers(-13, "riders", sheet, 1, 0, 0);
            s.answers(-13, "riders", sheet, 2, 0, 0);
        }
        // a film is as it was when it was made
        GetsOutFirst x = liftOf(90, 12);
        x.film(0, 10);
        x.set(4, 1, 1);
        Check.due("19: it stays as it was", x.landings(0), 0);
        x.film(0, 10);
        Check.due("19: another one", x.landings(0), NONE);
    }

    /** The first PLACE that a seed gives to RIDER r, if all before draw as often. */
    private static int firstPlace(int seed, int r) {
        BigInteger z = BigInteger.valueOf(seed);
        for (int k = 0; k <= r; k++) {
            z = z.multiply(BigInteger.valueOf(1103515245)).add(BigInteger.valueOf(12345));
        }
        BigInteger bits = z.mod(BigInteger.ONE.shiftLeft(32));
        return bits.shiftRight(9).mod(BigInteger.valueOf(6)).intValue();
    }

    private static int costOfDrawn(int doors, int seed, int... ways) {
        GetsOutFirst x = new GetsOutFirst();
        x.set(0, 0, doors);
        for (int r = 0; r < ways.length; r++) {
            int place = firstPlace(seed, r);
            int way = ways[r] / 10 * 10;
            for (int k = 0; k < 6 && x.rider(0, 0, way + (place + k) % 6) < 0; k++) {
                continue;
            }
        }
        Check.due("20: all find a PLACE", x.count(0), ways.length);
        return x.ride(0);
    }

    private static final int[] SEEDS = {MIN, MIN + 1, -65536, -12345, -2, -1, 0, 1, 2, 12345, 65535, 65536, 1103515245, MAX - 1, MAX};

    private static void drawnSeedsWrap() {
        int[] ways = {90, 31, 192, 483, 254};
        for (int n = 0; n <= 5; n++) {
            int[] some = java.util.Arrays.copyOf(ways, n);
            GetsOutFirst x = liftOf(some);
            for (int seed : SEEDS) {
                x.set(0, 0, 1);
                Check.due("20: " + n + " by the seed " + seed, x.drawn(seed), costOfDrawn(1, seed, some));
                x.set(0, 0, 2);
                Check.due("20: " + n + " by the seed " + seed + ", two doors", x.drawn(seed), costOfDrawn(2, seed, some));
            }
        }
    }

    /** Seeds by which one comes to a PLACE that is taken, the last one too, so that it goes on at 0. */
    private static void drawnGoesRound() {
        int rounds = 0;
        int[] ways = {90, 91, 92, 93, 94};
        for (int seed = 0; seed < 120; seed++) {
            boolean last = firstPlace(seed, 0) == 5 && firstPlace(seed, 1) == 5;
            if (last) {
                rounds++;
                // 0 is on 5, so 1 is on 0, and nobody is in the way of those two
                GetsOutFirst x = liftOf(90, 91);
                Check.due("20: round by " + seed, x.drawn(seed), 0);
            }
            GetsOutFirst x = liftOf(ways);
            Check.due("20: five by " + seed, x.drawn(seed), costOfDrawn(1, seed, ways));
        }
        Check.holds("20: some go round", rounds > 0);
    }

    private static void chanceRefuses() {
        for (State s : new State[] {State.empty(), State.busy()}) {
            for (int n : new int[] {MIN, -20, -1, 0, 21, 22, MAX}) {
                s.refuses(NO, "chance", 5, n, 0);
                s.answers(NO, "chance", MAX, n, 1);
                s.answers(NO, "chance", MIN, n, 2);
            }
            for (int part : NO_PARTS) {
                s.refuses(NO, "chance", 5, 1, part);
                s.answers(NO, "chance", 5, 20, part);
            }
        }
    }

    private static void chanceOf1And20Seeds() {
        for (int seed : SEEDS) {
            for (int n : new int[] {1, 2, 19, 20}) {
                chanceIs(seed, n, 90, 31, 192, 483, 254);
                chanceIs(seed, n, 24, 93);
            }
            State.empty().answers(1, "chance", seed, 1, 0);
            State.empty().answers(1, "chance", seed, 1, 1);
            State.empty().answers(1, "chance", seed, 20, 0);
            State.empty().answers(1, "chance", seed, 20, 1);
        }
    }

    private static void chanceIs(int seed, int n, int... ways) {
        GetsOutFirst x = liftOf(ways);
        int good = 0;
        for (int k = 0; k < n; k++) {
            good += costOfDrawn(1, seed + k, ways) <= x.ride(0) ? 1 : 0;
        }
        int common = BigInteger.valueOf(good).gcd(BigInteger.valueOf(n)).intValue();
        Check.due("21: chance(" + seed + ", " + n + "), above", x.chance(seed, n, 0), good / common);
        Check.due("21: chance(" + seed + ", " + n + "), below", x.chance(seed, n, 1), n / common);
    }

    private static void chanceSeedsWrap() {
        GetsOutFirst x = liftOf(90, 31, 192, 483, 254);
        int now = x.ride(0);
        int good = (x.drawn(MAX) <= now ? 1 : 0) + (x.drawn(MIN) <= now ? 1 : 0) + (x.drawn(MIN + 1) <= now ? 1 : 0);
        Check.due("21: from the greatest on to the least", x.chance(MAX, 3, 0) * (3 / x.chance(MAX, 3, 1)), good);
    }

    private static void chanceInLowestTerms() {
        for (int seed = 0; seed < 60; seed++) {
            for (int n = 1; n <= 20; n++) {
                GetsOutFirst x = liftOf(90, 31, 192, 483, 254);
                long above = x.chance(seed, n, 0);
                long below = x.chance(seed, n, 1);
                Check.due("21: no common divisor", BigInteger.valueOf(above).gcd(BigInteger.valueOf(below)).longValue(), 1);
                Check.holds("21: of " + n, below > 0 && n % below == 0 && above >= 0 && above <= below);
            }
        }
        GetsOutFirst x = liftOf(95, 94, 93, 92, 91);
        int dear = 0;
        for (int seed = 0; seed < 60; seed++) {
            boolean none = x.drawn(seed) > 0;
            dear += none ? 1 : 0;
            Check.due("21: COST is 0 now, one seed, above", x.chance(seed, 1, 0), none ? 0 : 1);
            Check.due("21: COST is 0 now, one seed, below", x.chance(seed, 1, 1), 1);
            if (none && x.drawn(seed + 1) > 0) {
                Check.due("21: none of two, above", x.chance(seed, 2, 0), 0);
                Check.due("21: none of two, below", x.chance(seed, 2, 1), 1);
            }
        }
        Check.holds("21: some are dear", dear > 10);
    }

    private static void anImageThatIsNotThere() {
        State.empty().refuses(STATE, "back");
        State.two().refuses(STATE, "back");
        State.fullTape().refuses(STATE, "back");
        State.fullTexts().refuses(STATE, "back");
        GetsOutFirst x = new GetsOutFirst();
        new GetsOutFirst().image();
        Check.due("23: another object's image is none", x.back(), STATE);
    }

    private static void anImageOfNoneAndOfFive() {
        State s = new State("an image of none").with("image");
        s.answers(0, "image");
        s.answers(0, "back");
        for (int r = 0; r < 5; r++) {
            s.with("rider", r, 11 * r, 90 + r);
        }
        s.answers(0, "back");
        s.answers(5, "image");
        s.with("image").answers(5, "back");
        s.answers(GetsOutFirst.FULL, "rider", 0, 0, 95);
        s.with("back").answers(5, "count", 0);
        GetsOutFirst x = new GetsOutFirst();
        x.image();
        for (int round = 0; round < 3; round++) {
            for (int r = 0; r < 5; r++) {
                Check.due("23: RIDER " + r + ", round " + round, x.rider(r, 11 * r, 95 - r), r);
            }
            Check.due("23: all five go", x.back(), 0);
            Check.due("23: nobody is there", x.count(0), 0);
        }
    }

    private static void anImageKeepsEachThing() {
        State s = State.busy().with("image");
        long[] due = State.shown(s.make());
        int[][] changes = {{0, 0, 2}, {1, 0, 9}, {2, 1, 9}, {3, 2, 6}, {4, 4, 1}, {5, 3, 1}};
        for (int[] c : changes) {
            GetsOutFirst x = s.make();
            if (c[0] == 4) {
                // PLACE 1 is taken by RIDER 3
                x.set(3, 3, 3);
            }
            Check.holds("23: set(" + c[0] + ") is taken", x.set(c[0], c[1], c[2]) >= 0);
            Check.due("23: back from set(" + c[0] + ")", x.back(), 5);
            same("23: back from set(" + c[0] + ")", State.shown(x), due);
        }
        GetsOutFirst x = s.make();
        x.force(0);
        x.back();
        same("23: back from force", State.shown(x), due);
        x = s.make();
        x.stands();
        x.back();
        same("23: back from stands", State.shown(x), due);
        x = s.make();
        x.back();
        x.back();
        same("23: back from nothing", State.shown(x), due);
    }

    private static void same(String what, long[] answers, long[] due) {
        for (int i = 0; i < due.length; i++) {
            if (answers[i] != due[i]) {
                Check.due(what + ", " + State.shows(true).get(i).written(), answers[i], due[i]);
                return;
            }
        }
        Check.holds(what, true);
    }

    private static void anImageIsKeptForGood() {
        GetsOutFirst x = liftOf(90);
        x.image();
        for (int v = 1; v < 10; v++) {
            x.set(1, 0, v);
            Check.due("23: again and again", x.back(), 1);
            Check.due("23: NUMBER", x.told(0, 1), 0);
        }
        x.set(1, 0, 7);
        Check.due("22: a later one", x.image(), 1);
        x.set(1, 0, 8);
        x.back();
        Check.due("23: is the one that counts", x.told(0, 1), 7);
    }

    private static void whoCameSinceGoes() {
        GetsOutFirst x = liftOf(90, 24);
        x.image();
        x.rider(5, 99, 281);
        x.rider(4, 88, 383);
        Check.due("23: two go", x.back(), 2);
        Check.due("23: they are in nobody's way", x.ride(0), 10);
        Check.due("23: nobody is on PLACE 1", x.set(4, 0, 1), 0);
        x.back();
        Check.due("23: two again", x.rider(0, 0, 281), 2);
        int[] due = {0, 0, 0, 8, 1, 100, 2};
        for (int what = 0; what < 7; what++) {
            Check.due("23: nothing of who was there: " + what, x.told(2, what), due[what]);
        }
        x.image();
        x.rider(0, 0, 383);
        Check.due("23: now one goes", x.back(), 3);
    }

    private static void countRefuses() {
        for (int what : new int[] {MIN, -2, -1, 5, 6, MAX}) {
            State.empty().refuses(BAD, "count", what);
            State.busy().refuses(BAD, "count", what);
        }
    }

    private static void countsAtTheirBounds() {
        State.busy().answers(5, "count", 0);
        State.busy().with("set", 0, 0, 2).answers(2, "count", 1);
        State.fullTexts().answers(6, "count", 2);
        State.fullTape().answers(160, "count", 3);
        State.fullTexts().with("force", 5).answers(5, "count", 4);
        for (int what = 0; what < 5; what++) {
            State.busy().refuses(State.busy().make().count(what), "count", what);
        }
    }
}
