/** Promises 1 to 5: a new object, and its riders. */
public final class RidersTest {
    public static void main(String[] args) {
        aNewLiftIsEmpty();
        riderAnswersNumbers();
        riderRefuses();
        riderRefusesInOrder();
        twoOnOnePlace();
        setAnswersWhatWas();
        setRefuses();
        setKeepsTwoApart();
        toldTellsAll();
        letsByKinds();
        letsRefuses();
        Check.end("RidersTest");
    }

    private static void aNewLiftIsEmpty() {
        GetsOutFirst x = new GetsOutFirst();
        int[] counts = {0, 1, 1, 0, 0};
        for (int what = 0; what < counts.length; what++) {
            Check.due("1: count(" + what + ")", x.count(what), counts[what]);
        }
        for (int sheet = 0; sheet < 4; sheet++) {
            Check.due("1: cell(" + sheet + ") of a missing sheet", x.cell(sheet, 0, 0), -11);
        }
        Check.due("1: ride", x.ride(0), 0);
        Check.due("1: back", x.back(), GetsOutFirst.STATE);
        new GetsOutFirst().rider(0, 0, 10);
        Check.due("1: objects share nothing", x.count(0), 0);
    }

    private static void riderAnswersNumbers() {
        GetsOutFirst x = new GetsOutFirst();
        int[] ways = {10, 891, 95, 452, 123};
        for (int r = 0; r < ways.length; r++) {
            Check.due("2: rider " + r, x.rider(r, 99 - r, ways[r]), r);
        }
        Check.due("2: a sixth one", x.rider(5, 0, 234), GetsOutFirst.FULL);
        Check.due("2: nobody came", x.count(0), 5);
    }

    private static void riderRefuses() {
        GetsOutFirst x = new GetsOutFirst();
        int[][] bad = {{-1, 0, 10}, {6, 0, 10}, {0, -1, 10}, {0, 100, 10}, {0, 0, -1}, {0, 0, 0}, {0, 0, 5},
            {0, 0, 16}, {0, 0, 19}, {0, 0, 110}, {0, 0, 210}, {0, 0, 880}, {0, 0, 890 + 6}, {0, 0, 900}, {0, 0, 990},
            {0, 0, 1010}, {0, 0, -10}, {0, 0, Integer.MIN_VALUE}, {0, 0, Integer.MAX_VALUE},
            {Integer.MIN_VALUE, 0, 10}, {Integer.MAX_VALUE, 0, 10}, {0, Integer.MIN_VALUE, 10}, {0, Integer.MAX_VALUE, 10}};
        for (int[] b : bad) {
            Check.due("2: rider(" + b[0] + ", " + b[1] + ", " + b[2] + ")", x.rider(b[0], b[1], b[2]), GetsOutFirst.BAD);
        }
        Check.due("2: nobody came", x.count(0), 0);
        Check.due("2: the greatest", x.rider(5, 99, 895), 0);
        Check.due("2: the least", x.rider(0, 0, 10), 1);
    }

    private static void riderRefusesInOrder() {
        GetsOutFirst x = new GetsOutFirst();
        x.rider(0, 0, 90);
        Check.due("2: BAD ahead of STATE", x.rider(6, 0, 90), GetsOutFirst.BAD);
        for (int p = 1; p < 5; p++) {
            x.rider(0, 0, 90 + p);
        }
        Check.due("2: FULL ahead of STATE", x.rider(0, 0, 90), GetsOutFirst.FULL);
        Check.due("2: BAD ahead of FULL", x.rider(0, 100, 90), GetsOutFirst.BAD);
    }

    private static void twoOnOnePlace() {
        GetsOutFirst x = new GetsOutFirst();
        Check.due("2: from 2 to 5", x.rider(0, 0, 253), 0);
        Check.due("2: to 3, one floor together", x.rider(0, 0, 33), GetsOutFirst.STATE);
        Check.due("2: from 4, one floor together", x.rider(0, 0, 493), GetsOutFirst.STATE);
        Check.due("2: all around", x.rider(0, 0, 93), GetsOutFirst.STATE);
        Check.due("2: all inside", x.rider(0, 0, 343), GetsOutFirst.STATE);
        Check.due("2: out where the other gets in", x.rider(0, 0, 23), 1);
        Check.due("2: in where the other gets out", x.rider(0, 0, 593), 2);
        Check.due("2: another place", x.rider(0, 0, 252), 3);
    }

    private static void setAnswersWhatWas() {
        GetsOutFirst x = new GetsOutFirst();
        x.rider(3, 42, 265);
        Check.due("3: DOORS", x.set(0, 77, 2), 1);
        Check.due("3: DOORS again", x.set(0, -5, 1), 2);
        Check.due("3: NUMBER", x.set(1, 0, 9), 4);
        Check.due("3: SIZE", x.set(2, 0, 0), 2);
        Check.due("3: TO", x.set(3, 0, 3), 6);
        Check.due("3: TO again", x.set(3, 0, 9), 3);
        Check.due("3: PLACE", x.set(4, 0, 0), 5);
        Check.due("3: the last PLACE", x.set(4, 0, 5), 0);
        Check.due("3: the first PLACE", x.set(4, 0, 0), 5);
        Check.due("3: CHANCE", x.set(5, 0, 0), 100);
        Check.due("3: CHANCE again", x.set(5, 0, 100), 0);
        int[] now = {3, 9, 0, 9, 0, 100, 2};
        for (int what = 0; what < now.length; what++) {
            Check.due("3: told then " + what, x.told(0, what), now[what]);
        }
    }

    private static void setRefuses() {
        GetsOutFirst x = new GetsOutFirst();
        x.rider(0, 42, 265);
        int[][] bad = {{-1, 0, 1}, {6, 0, 1}, {0, 0, 0}, {0, 0, 3}, {1, 0, -1}, {1, 0, 10}, {2, 0, -1}, {2, 0, 10},
            {3, 0, 2}, {3, 0, 1}, {3, 0, 10}, {4, 0, -1}, {4, 0, 6}, {5, 0, -1}, {5, 0, 101}, {1, 1, 0}, {1, -1, 0},
            {1, 5, 0}, {5, Integer.MAX_VALUE, 0}, {5, Integer.MIN_VALUE, 0}};
        for (int[] b : bad) {
            Check.due("3: set(" + b[0] + ", " + b[1] + ", " + b[2] + ")", x.set(b[0], b[1], b[2]), GetsOutFirst.BAD);
        }
        int[] still = {0, 4, 2, 6, 5, 100, 2};
        for (int what = 0; what < still.length; what++) {
            Check.due("3: refusals change nothing: " + what, x.told(0, what), still[what]);
        }
        Check.due("3: doors stay", x.count(1), 1);
    }

    private static void setKeepsTwoApart() {
        GetsOutFirst x = new GetsOutFirst();
        x.rider(0, 0, 30);
        x.rider(0, 0, 350);
        x.rider(0, 0, 91);
        Check.due("3: TO into another's time", x.set(3, 0, 4), GetsOutFirst.STATE);
        Check.due("3: TO stays", x.told(0, 3), 3);
        Check.due("3: a taken PLACE", x.set(4, 2, 0), GetsOutFirst.STATE);
        Check.due("3: PLACE stays", x.told(2, 4), 1);
        Check.due("3: its own PLACE", x.set(4, 2, 1), 1);
        Check.due("3: BAD ahead of STATE", x.set(3, 0, 10), GetsOutFirst.BAD);
    }

    private static void toldTellsAll() {
        GetsOutFirst x = new GetsOutFirst();
        x.rider(1, 0, 90);
        x.rider(4, 37, 284);
        int[] due = {4, 3, 7, 8, 4, 100, 2};
        for (int what = 0; what < due.length; what++) {
            Check.due("4: told(1, " + what + ")", x.told(1, what), due[what]);
        }
        int[][] bad = {{-1, 0}, {2, 0}, {5, 0}, {0, -1}, {0, 7}, {Integer.MAX_VALUE, 0}, {0, Integer.MIN_VALUE}};
        for (int[] b : bad) {
            Check.due("4: told(" + b[0] + ", " + b[1] + ")", x.told(b[0], b[1]), GetsOutFirst.BAD);
        }
    }

    /** Whether one of a kind, with NUMBER and SIZE as told and on that place, lets a SIZE by. */
    private static int lets(int kind, int what, int place, int size) {
        GetsOutFirst x = new GetsOutFirst();
        x.rider(kind, what, 90 + place);
        x.rider(0, size, 90 + (place == 1 ? 0 : 1));
        return x.lets(0, 1);
    }

    private static void letsByKinds() {
        for (int kind : new int[] {0, 2, 4}) {
            Check.due("5: kind " + kind + " never", lets(kind, 90, 0, 0), 0);
            Check.due("5: kind " + kind + " in no row", lets(kind, 90, 4, 0), 0);
        }
        Check.due("5: SLIM below NUMBER", lets(1, 50, 2, 4), 1);
        Check.due("5: SLIM at NUMBER", lets(1, 50, 0, 5), 0);
        Check.due("5: POLITE in row 0", lets(3, 0, 0, 9), 1);
        Check.due("5: POLITE in row 0, side 1", lets(3, 0, 1, 9), 1);
        Check.due("5: POLITE in row 1", lets(3, 50, 2, 5), 0);
        Check.due("5: POLITE in row 1 as a SLIM", lets(3, 50, 3, 4), 1);
        Check.due("5: POLITE in row 2", lets(3, 0, 5, 0), 0);
        Check.due("5: SMALL, 9 together", lets(5, 4, 2, 5), 1);
        Check.due("5: SMALL, 10 together", lets(5, 4, 2, 6), 0);
        Check.due("5: SMALL as a SLIM", lets(5, 79, 0, 6), 1);
        Check.due("5: SMALL as a SLIM doesn't", lets(5, 69, 0, 6), 0);
    }

    private static void letsRefuses() {
        GetsOutFirst x = new GetsOutFirst();
        x.rider(3, 0, 90);
        x.rider(3, 0, 891);
        Check.due("5: also if they never meet", x.lets(0, 1), 1);
        int[][] bad = {{0, 0}, {1, 1}, {0, 2}, {2, 0}, {-1, 0}, {0, -1}, {5, 0}, {0, Integer.MAX_VALUE}};
        for (int[] b : bad) {
            Check.due("5: lets(" + b[0] + ", " + b[1] + ")", x.lets(b[0], b[1]), GetsOutFirst.BAD);
        }
    }
}
