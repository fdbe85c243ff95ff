/** Promises 17 to 24: landings that were seen, places that are drawn, the image, and what is counted. */
public final class LandingsTest {
    public static void main(String[] args) {
        landingsFindTheFirst();
        landingsRefuse();
        whereOneWasGoing();
        whereOneStood();
        whatKindOneWas();
        seenAsAllCanStand();
        seenRefuses();
        filmMakesSheets();
        filmRefuses();
        placesAreDrawn();
        chancesOfSeeds();
        chanceRefuses();
        anImageIsKept();
        theLastImageCounts();
        whatAnImageDoesNotKeep();
        countsAll();
        Check.end("LandingsTest");
    }

    /** RIDER 0 at the door to the top, RIDER 1 behind it to floor 2: RIDER 0 steps out at 0 and at 2. */
    private static GetsOutFirst two() {
        GetsOutFirst x = new GetsOutFirst();
        x.rider(0, 5, 90);
        x.rider(0, 5, 24);
        return x;
    }

    private static void landingsFindTheFirst() {
        GetsOutFirst x = two();
        for (int sort = 0; sort < 3; sort++) {
            x.sheet(0, sort, 10);
            Check.due("17: otherwise at 0", x.landings(0), 0);
            x.cell(0, 0, 1);
            Check.due("17: otherwise at 2", x.landings(0), 2);
            x.cell(0, 2, 3);
            Check.due("17: still at 2", x.landings(0), 2);
            x.cell(0, 2, 1);
            Check.due("17: as it is", x.landings(0), GetsOutFirst.NONE);
            x.cell(0, 9, 16);
            Check.due("17: otherwise at 9", x.landings(0), 9);
            x.cell(0, 0, 257);
            Check.due("17: 257 is 1 in a byte", x.landings(0), sort == 0 ? 9 : 0);
            x.cell(0, 0, 65537);
            Check.due("17: 65537 is 1 in a short", x.landings(0), sort == 2 ? 0 : 9);
            x.cell(0, 0, -255);
            Check.due("17: -255 is 1 in a byte", x.landings(0), sort == 0 ? 9 : 0);
        }
        x.sheet(3, 2, 0);
        Check.due("17: no floor", x.landings(3), GetsOutFirst.NONE);
        x.sheet(3, 2, 1);
        Check.due("17: one floor", x.landings(3), 0);
        x.set(0, 0, 2);
        Check.due("17: with two doors", x.landings(3), GetsOutFirst.NONE);
    }

    private static void landingsRefuse() {
        GetsOutFirst x = two();
        for (int sheet : new int[] {-1, 4, Integer.MAX_VALUE, Integer.MIN_VALUE}) {
            Check.due("17: landings(" + sheet + ")", x.landings(sheet), GetsOutFirst.BAD);
        }
        Check.due("17: missing", x.landings(3), -11);
        x.sheet(3, 0, 11);
        Check.due("17: 11 floors", x.landings(3), GetsOutFirst.BAD);
        x.sheet(3, -1, 0);
        Check.due("17: missing again", x.landings(3), -11);
    }

    private static void whereOneWasGoing() {
        GetsOutFirst x = two();
        x.film(0, 10);
        Check.due("18: GOING of 1", x.seen(0, 1, 0), 1 << 2);
        Check.due("18: GOING of 0", x.seen(0, 0, 0), 1016);
        x.film(0, 2);
        Check.due("18: GOING of 1, two floors seen", x.seen(0, 1, 0), 1020);
        x.film(0, 0);
        Check.due("18: GOING of 1, none seen", x.seen(0, 1, 0), 1022);
        Check.due("18: nothing is changed", x.told(1, 3), 2);
        x.rider(0, 0, 681);
        Check.due("18: above FROM", x.seen(0, 2, 0), 128 + 256 + 512);
        x.sheet(1, 2, 1);
        Check.due("18: by none", x.seen(1, 1, 0), 0);
    }

    private static void whereOneStood() {
        GetsOutFirst x = two();
        x.film(0, 10);
        Check.due("18: STOOD of 0", x.seen(0, 0, 1), 1 + 4);
        Check.due("18: STOOD of 1", x.seen(0, 1, 1), 4 + 16);
        x.film(0, 0);
        Check.due("18: STOOD of 0, none seen", x.seen(0, 0, 1), 63 - 16);
        Check.due("18: nothing is changed", x.told(0, 4), 0);
    }

    private static void whatKindOneWas() {
        GetsOutFirst x = two();
        x.film(0, 10);
        Check.due("18: KINDS of 0", x.seen(0, 0, 2), 63 - 8);
        Check.due("18: KINDS of 1", x.seen(0, 1, 2), 63);
        x.set(1, 0, 6);
        Check.due("18: KINDS of 0, if its NUMBER were 6", x.seen(0, 0, 2), 1 + 4 + 16);
        x.set(1, 0, 0);
        x.set(2, 0, 4);
        Check.due("18: KINDS of 0, if its SIZE were 4", x.seen(0, 0, 2), 63 - 8 - 32);
        x.sheet(1, 0, 10);
        Check.due("18: KINDS of 0, if nobody had stepped out", x.seen(1, 0, 2), 8 + 32);
        Check.due("18: nothing is changed", x.told(0, 0), 0);
    }

    private static void seenAsAllCanStand() {
        GetsOutFirst x = new GetsOutFirst();
        x.rider(0, 0, 30);
        x.rider(0, 0, 390);
        x.rider(0, 0, 153);
        x.film(0, 0);
        Check.due("18: GOING till the next one comes", x.seen(0, 0, 0), 14);
        Check.due("18: STOOD beside the others", x.seen(0, 2, 1), 63 - 1);
        Check.due("18: STOOD where another comes later", x.seen(0, 0, 1), 63 - 8);
    }

    private static void seenRefuses() {
        GetsOutFirst x = two();
        int[][] bad = {{-1, 0, 0}, {4, 0, 0}, {0, -1, 0}, {0, 2, 0}, {0, 5, 0}, {0, 0, -1}, {0, 0, 3},
            {Integer.MAX_VALUE, 0, 0}, {0, Integer.MIN_VALUE, 0}, {0, 0, Integer.MAX_VALUE}};
        for (int[] b : bad) {
            Check.due("18: seen(" + b[0] + ", " + b[1] + ", " + b[2] + ")", x.seen(b[0], b[1], b[2]), GetsOutFirst.BAD);
        }
        Check.due("18: missing", x.seen(0, 0, 0), -11);
        x.sheet(0, 1, 11);
        Check.due("18: 11 floors", x.seen(0, 0, 0), GetsOutFirst.BAD);
        x.sheet(0, 1, 10);
        Check.due("18: 10 floors", x.seen(0, 0, 0), 0);
    }

    private static void filmMakesSheets() {
        GetsOutFirst x = two();
        x.sheet(0, 2, 40);
        for (int n = 0; n <= 10; n++) {
            Check.due("19: film", x.film(0, n), n);
            Check.due("19: as it is", x.landings(0), GetsOutFirst.NONE);
            Check.due("19: size", x.cell(0, n, 0), -12);
            Check.due("19: bytes", x.riders(0, 0, 0, 0), 0);
        }
        x.film(0, 10);
        x.sheet(1, 0, 10);
        Check.due("19: bytes can be copied", x.copy(0, 0, 1, 0, 10), 10);
        x.set(0, 0, 2);
        Check.due("19: a film stays as it is", x.landings(0), 0);
    }

    private static void filmRefuses() {
        GetsOutFirst x = two();
        x.film(0, 4);
        int[][] bad = {{-1, 0}, {4, 0}, {0, -1}, {0, 11}, {Integer.MIN_VALUE, 0}, {0, Integer.MAX_VALUE}};
        for (int[] b : bad) {
            Check.due("19: film(" + b[0] + ", " + b[1] + ")", x.film(b[0], b[1]), GetsOutFirst.BAD);
        }
        Check.due("19: refusals change nothing", x.cell(0, 4, 0), -12);
        Check.due("19: and nothing inside", x.landings(0), GetsOutFirst.NONE);
    }

    private static final int[] WAYS = {95, 24, 132, 393, 491};

    /** The same riders, put where the seed says. */
    private static int costOfDrawn(int seed) {
        GetsOutFirst x = new GetsOutFirst();
        int z = seed;
        for (int r = 0; r < WAYS.length; r++) {
            z = z * 1103515245 + 12345;
            int place = (z >>> 9) % 6;
            while (x.rider(r, 35 + r, WAYS[r] / 10 * 10 + place) < 0) {
                place = (place + 1) % 6;
            }
        }
        return x.ride(0);
    }

    private static GetsOutFirst five() {
        GetsOutFirst x = new GetsOutFirst();
        for (int r = 0; r < WAYS.length; r++) {
            x.rider(r, 35 + r, WAYS[r]);
        }
        return x;
    }

    private static void placesAreDrawn() {
        GetsOutFirst x = five();
        Check.due("20: five came", x.count(0), 5);
        int now = x.ride(0);
        for (int seed = -40; seed < 40; seed++) {
            Check.due("20: drawn(" + seed + ")", x.drawn(seed), costOfDrawn(seed));
        }
        for (int seed : new int[] {Integer.MIN_VALUE, Integer.MAX_VALUE, 123456789, -987654321}) {
            Check.due("20: drawn(" + seed + ")", x.drawn(seed), costOfDrawn(seed));
        }
        Check.due("20: nothing is changed", x.ride(0), now);
        GetsOutFirst y = two();
        int dear = 0;
        for (int seed = 0; seed < 20; seed++) {
            y.set(0, 0, 1);
            dear += y.drawn(seed);
            y.set(0, 0, 2);
            Check.due("20: by the doors that are", y.drawn(seed), 0);
        }
        Check.holds("20: by one door some are dear", dear > 0);
        Check.due("20: nobody", new GetsOutFirst().drawn(7), 0);
    }

    private static void chancesOfSeeds() {
        for (int first : new int[] {0, -7, 99, Integer.MAX_VALUE - 3}) {
            GetsOutFirst x = five();
            int good = 0;
            for (int n = 1; n <= 20; n++) {
                good += costOfDrawn(first + n - 1) <= x.ride(0) ? 1 : 0;
                int common = java.math.BigInteger.valueOf(good).gcd(java.math.BigInteger.valueOf(n)).intValue();
                Check.due("21: chance(" + first + ", " + n + "), above", x.chance(first, n, 0), good / common);
                Check.due("21: chance(" + first + ", " + n + "), below", x.chance(first, n, 1), n / common);
            }
        }
        GetsOutFirst x = two();
        Check.due("21: all are as good", x.chance(3, 20, 0), 1);
        Check.due("21: all of all", x.chance(3, 20, 1), 1);
        Check.due("21: nothing is changed", x.told(0, 4), 0);
    }

    private static void chanceRefuses() {
        GetsOutFirst x = two();
        int[][] bad = {{0, 0}, {21, 0}, {-1, 0}, {1, -1}, {1, 2}, {Integer.MAX_VALUE, 0}, {1, Integer.MIN_VALUE}};
        for (int[] b : bad) {
            Check.due("21: chance(0, " + b[0] + ", " + b[1] + ")", x.chance(0, b[0], b[1]), GetsOutFirst.NO);
        }
    }

    private static void anImageIsKept() {
        GetsOutFirst x = new GetsOutFirst();
        Check.due("23: none", x.back(), GetsOutFirst.STATE);
        Check.due("22: of nobody", x.image(), 0);
        x.rider(3, 12, 90);
        Check.due("23: who came goes", x.back(), 0);
        Check.due("23: nobody is there", x.told(0, 0), GetsOutFirst.BAD);
        x.rider(3, 12, 290);
        x.rider(1, 34, 291);
        Check.feed(x, "steps 9;late 9;moves 9;");
        x.text();
        Check.due("22: of two", x.image(), 2);
        int[] others = {2, 5, 6, 8, 4, 50};
        for (int what = 0; what < others.length; what++) {
            x.set(what, 0, others[what]);
        }
        x.set(4, 1, 3);
        x.force(1);
        x.rider(0, 0, 892);
        Check.due("23: back", x.back(), 2);
        int[] due = {3, 1, 2, 9, 0, 100, 2};
        for (int what = 0; what < due.length; what++) {
            Check.due("23: told(0, " + what + ")", x.told(0, what), due[what]);
        }
        Check.due("23: another's PLACE", x.told(1, 4), 1);
        Check.due("23: DOORS", x.count(1), 1);
        Check.due("23: THE RULE", x.count(4), 0);
        Check.due("23: RIDERS", x.count(0), 2);
        Check.due("23: a place that is free again", x.rider(5, 77, 892), 2);
        Check.due("23: another kind", x.told(2, 0), 5);
        Check.due("23: once more", x.back(), 2);
    }

    private static void theLastImageCounts() {
        GetsOutFirst x = two();
        x.image();
        x.set(0, 0, 2);
        x.set(1, 1, 7);
        Check.due("22: another one", x.image(), 2);
        x.set(0, 0, 1);
        x.set(1, 1, 8);
        x.back();
        Check.due("23: DOORS of the last", x.count(1), 2);
        Check.due("23: NUMBER of the last", x.told(1, 1), 7);
        x.set(1, 1, 9);
        x.back();
        Check.due("23: what is set later is not in it", x.told(1, 1), 7);
    }

    private static void whatAnImageDoesNotKeep() {
        GetsOutFirst x = two();
        x.image();
        Check.feed(x, "steps 9;late 9;moves 9;");
        x.text();
        x.feed('s');
        x.film(2, 3);
        x.back();
        Check.due("23: texts stay", x.count(2), 2);
        Check.due("23: the tape stays", x.count(3), 1);
        Check.due("23: sheets stay", x.landings(2), GetsOutFirst.NONE);
    }

    private static void countsAll() {
        GetsOutFirst x = two();
        x.set(0, 0, 2);
        Check.feed(x, "steps 9;late 9;moves 9;");
        x.text();
        x.force(1);
        Check.feed(x, "abc");
        int[] due = {2, 2, 2, 3, 1};
        for (int what = 0; what < due.length; what++) {
            Check.due("24: count(" + what + ")", x.count(what), due[what]);
        }
        for (int what : new int[] {-1, 5, Integer.MAX_VALUE, Integer.MIN_VALUE}) {
            Check.due("24: count(" + what + ")", x.count(what), GetsOutFirst.BAD);
        }
    }
}
