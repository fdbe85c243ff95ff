/** Promises 9 and 10: the ride, floor by floor. */
public final class RideTest {
    public static void main(String[] args) {
        whoIsInTheWay();
        gettingInByNumbers();
        onceAtAFloor();
        whoIsLate();
        costsByKinds();
        theSecondDoor();
        theSecondDoorCountsThoseWhoDontLet();
        whoGoesOn();
        thoseWhoChangeAtAFloor();
        theRide();
        refusals();
        Check.end("RideTest");
    }

    private static GetsOutFirst liftOf(int... kindWhatWay) {
        GetsOutFirst x = new GetsOutFirst();
        for (int i = 0; i < kindWhatWay.length; i += 3) {
            Check.due("rider", x.rider(kindWhatWay[i], kindWhatWay[i + 1], kindWhatWay[i + 2]), i / 3);
        }
        return x;
    }

    private static void whoIsInTheWay() {
        for (int p = 0; p < 6; p++) {
            for (int q = 0; q < 6; q++) {
                if (p == q) {
                    continue;
                }
                boolean inTheWay = p % 2 == q % 2 && p < q;
                GetsOutFirst x = liftOf(0, 0, 90 + p, 0, 0, 120 + q);
                Check.due("10: " + p + " in the way of " + q + ", in", x.floor(1, 0), inTheWay ? 1 : 0);
                Check.due("10: " + p + " in the way of " + q + ", out", x.floor(2, 0), inTheWay ? 1 : 0);
                x.set(0, 0, 2);
                Check.due("10: with a second door", x.ride(1), 0);
            }
        }
    }

    private static void gettingInByNumbers() {
        GetsOutFirst x = liftOf(0, 0, 94, 0, 0, 92, 0, 0, 90);
        Check.due("10: the rear gets in first", x.floor(0, 0), 0);
        x = liftOf(0, 0, 90, 0, 0, 92, 0, 0, 94);
        Check.due("10: the front gets in first", x.floor(0, 0), 3);
        Check.due("10: nobody is late who just got in", x.floor(0, 1), 10);
        Check.due("10: all get out", x.floor(9, 0), 0);
    }

    private static void onceAtAFloor() {
        GetsOutFirst x = liftOf(0, 0, 90, 0, 0, 52, 0, 0, 54, 0, 0, 592);
        Check.due("10: for three", x.floor(5, 0), 1);
        Check.due("10: pays once", x.floor(5, 1), 5);
        Check.due("9: steps", x.ride(1), 3);
        Check.due("9: floors, the first too", x.ride(2), 1 + 32);
    }

    private static void whoIsLate() {
        GetsOutFirst x = liftOf(0, 0, 90, 0, 0, 91, 0, 0, 93, 0, 0, 34);
        Check.due("10: who steps out at 3", x.floor(3, 0), 1);
        Check.due("10: two are late", x.floor(3, 1), 7);
        Check.rule(x, "steps 10;late 1+rider+10*inside;moves 0;");
        Check.due("10: inside counts who gets out", x.floor(3, 1), 10 + 42 + 43);
        Check.due("10: nobody steps out, nobody is late", x.floor(4, 1), 0);
        x = liftOf(0, 0, 20, 0, 0, 292, 0, 0, 91, 0, 0, 290);
        Check.due("10: neither who gets out nor who gets in", x.floor(2, 1), 0);
        x = liftOf(0, 0, 90, 0, 0, 21, 0, 0, 292, 0, 0, 291);
        Check.due("10: but who steps out", x.floor(2, 1), 5);
    }

    /** What it costs that one of a kind and SIZE steps out, steps telling v. */
    private static int costs(int kind, int size, int v) {
        GetsOutFirst x = liftOf(kind, size, 92, 0, 9, 94);
        Check.rule(x, "steps " + v + ";late 0;moves 0;");
        return x.ride(0);
    }

    private static void costsByKinds() {
        int[][] due = {{0, 9, 7, 7}, {1, 9, 7, 7}, {2, 9, 7, 14}, {3, 9, 7, 6}, {4, 9, 7, 23}, {5, 9, 7, 3},
            {3, 0, 0, 0}, {3, 0, 1, 0}, {4, 6, 0, 6}, {5, 9, 1, 0}, {5, 9, 8, 4}, {2, 0, 99, 198}, {4, 9, 500, 207},
            {3, 0, 500, 98}, {5, 9, 500, 49}, {0, 0, 0, 0}};
        for (int[] d : due) {
            Check.due("9: kind " + d[0] + ", size " + d[1] + ", steps " + d[2], costs(d[0], d[1], d[2]), d[3]);
        }
    }

    private static void theSecondDoor() {
        GetsOutFirst x = liftOf(0, 0, 90, 0, 0, 94, 0, 0, 132);
        x.set(0, 0, 2);
        Check.due("10: as many by both, so by the door", x.floor(1, 0), 1);
        Check.due("10: out likewise", x.floor(3, 0), 1);
        x = liftOf(0, 0, 90, 0, 0, 92, 0, 0, 134);
        Check.due("10: two by the door alone", x.floor(3, 0), 3);
        x.set(0, 0, 2);
        Check.due("10: none by the second one", x.floor(3, 0), 0);
        x = liftOf(0, 0, 94, 0, 0, 92, 0, 0, 130);
        x.set(0, 0, 2);
        Check.due("10: none by the door", x.floor(1, 0), 0);
    }

    private static void theSecondDoorCountsThoseWhoDontLet() {
        GetsOutFirst x = liftOf(1, 90, 90, 0, 0, 94, 0, 0, 132);
        x.set(0, 0, 2);
        Check.due("10: the front lets by", x.floor(3, 0), 0);
        x = liftOf(0, 0, 90, 5, 0, 94, 0, 9, 132);
        x.set(0, 0, 2);
        Check.due("10: the rear lets by", x.floor(3, 0), 0);
        x.set(2, 1, 1);
        Check.due("10: neither lets by", x.floor(3, 0), 1);
        x = liftOf(0, 0, 90, 3, 0, 94, 0, 9, 132);
        x.set(0, 0, 2);
        Check.due("10: politeness is of row 0 alone", x.floor(3, 0), 1);
    }

    private static void whoGoesOn() {
        GetsOutFirst x = liftOf(0, 0, 30, 0, 0, 391, 0, 0, 252);
        int[] due = {1, 1, 5, 6, 6, 2, 2, 2, 2, 0};
        for (int f = 0; f < 10; f++) {
            Check.due("10: who goes on from " + f, x.floor(f, 2), due[f]);
        }
    }

    private static void thoseWhoChangeAtAFloor() {
        GetsOutFirst x = liftOf(0, 0, 30, 0, 0, 34, 0, 0, 390, 0, 0, 394);
        Check.due("10: who gets out is in nobody's way", x.floor(3, 0), 4);
        x = liftOf(0, 0, 394, 0, 0, 390, 0, 0, 32);
        Check.due("10: who gets in is in the way of none who gets out", x.floor(3, 0), 0);
    }

    private static void theRide() {
        GetsOutFirst x = liftOf(0, 0, 90, 2, 0, 132, 0, 0, 284, 4, 3, 81, 5, 25, 483);
        int cost = 0;
        int steps = 0;
        int floors = 0;
        for (int f = 0; f < 10; f++) {
            cost += x.floor(f, 1);
            steps += Integer.bitCount(x.floor(f, 0));
            floors |= x.floor(f, 0) != 0 ? 1 << f : 0;
        }
        Check.due("9: COST", x.ride(0), cost);
        Check.due("9: STEPS", x.ride(1), steps);
        Check.due("9: FLOORS", x.ride(2), floors);
        // at 1: 0 steps out, 3 late: 6; at 2: 0 (5) and 1 (10), 3 late: 16; at 3: 0, 2 and 3 late: 7;
        // at 4: 3 (2 * 5 + 3), 0 and 2 late: 15; at 8: 0 for 2, all others get out: 5
        int[] due = {0, 6, 16, 7, 15, 0, 0, 0, 5, 0};
        for (int f = 0; f < 10; f++) {
            Check.due("10: COST at " + f, x.floor(f, 1), due[f]);
        }
        Check.due("9: COST together", x.ride(0), 49);
        Check.due("9: STEPS together", x.ride(1), 6);
        Check.due("9: FLOORS together", x.ride(2), 2 + 4 + 8 + 16 + 256);
    }

    private static void refusals() {
        GetsOutFirst x = liftOf(0, 0, 90);
        for (int what : new int[] {-1, 3, Integer.MAX_VALUE, Integer.MIN_VALUE}) {
            Check.due("9: ride(" + what + ")", x.ride(what), GetsOutFirst.BAD);
            Check.due("10: floor(0, " + what + ")", x.floor(0, what), GetsOutFirst.BAD);
        }
        for (int floor : new int[] {-1, 10, Integer.MAX_VALUE, Integer.MIN_VALUE}) {
            Check.due("10: floor(" + floor + ", 0)", x.floor(floor, 0), GetsOutFirst.BAD);
        }
    }
}
