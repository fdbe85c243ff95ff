/** The bounds of promises 9 and 10: floors, who stays, who is in the way, what it costs. */
public final class RideBoundsTest {
    private static final int BAD = GetsOutFirst.BAD;
    private static final int MIN = Integer.MIN_VALUE, MAX = Integer.MAX_VALUE;

    public static void main(String[] args) {
        aRideOfNoRiders();
        aRideOfOne();
        floorsAre0To9();
        whatIsAsked();
        whoStaysAtAFloor();
        nobodyStays();
        whoIsLate();
        howManyAreInside();
        whoIsInTheLift();
        whoIsInTheWayByOneDoor();
        whoIsInTheWayByTwoDoors();
        asManyByTheSecondDoor();
        theDoorsOfThoseWhoGetIn();
        lesserNumbersAlone();
        aFullLiftGetsInAndOut();
        costsByKindsAndBounds();
        costsAre0AtLeastInTheEnd();
        Check.end("RideBoundsTest");
    }

    private static GetsOutFirst liftOf(int... ways) {
        GetsOutFirst x = new GetsOutFirst();
        for (int i = 0; i < ways.length; i++) {
            Check.due("rider " + ways[i], x.rider(0, 0, ways[i]), i);
        }
        return x;
    }

    private static void aRideOfNoRiders() {
        GetsOutFirst gone = new GetsOutFirst();
        gone.image();
        gone.rider(0, 0, 90);
        gone.rider(0, 0, 92);
        Check.due("9: two", gone.ride(0), 5);
        gone.back();
        for (GetsOutFirst x : new GetsOutFirst[] {new GetsOutFirst(), gone}) {
            for (int doors = 1; doors <= 2; doors++) {
                x.set(0, 0, doors);
                for (int what = 0; what < 3; what++) {
                    Check.due("9: nobody, ride(" + what + ")", x.ride(what), 0);
                    for (int f = 0; f < 10; f++) {
                        Check.due("10: nobody, floor(" + f + ", " + what + ")", x.floor(f, what), 0);
                    }
                }
            }
        }
    }

    private static void aRideOfOne() {
        for (int place = 0; place < 6; place++) {
            GetsOutFirst x = liftOf(90 + place);
            for (int what = 0; what < 3; what++) {
                Check.due("9: one on " + place + ", ride(" + what + ")", x.ride(what), 0);
            }
            for (int f = 0; f < 10; f++) {
                Check.due("10: one on " + place + ", steps out at " + f, x.floor(f, 0), 0);
                Check.due("10: one on " + place + ", costs at " + f, x.floor(f, 1), 0);
                Check.due("10: one on " + place + ", goes on from " + f, x.floor(f, 2), f < 9 ? 1 : 0);
            }
        }
    }

    private static void floorsAre0To9() {
        for (int floor : new int[] {MIN, MIN + 1, -10, -2, -1, 10, 11, 32, 256, MAX}) {
            for (int what = 0; what < 3; what++) {
                State.busy().refuses(BAD, "floor", floor, what);
                State.empty().answers(BAD, "floor", floor, what);
            }
        }
        GetsOutFirst x = liftOf(90, 894);
        x.rider(0, 0, 12);
        Check.due("10: the first FLOOR", x.floor(0, 0), 1);
        Check.due("10: the last one at which one gets in", x.floor(8, 0), 1);
        Check.due("10: the last one", x.floor(9, 0), 0);
        Check.due("9: FLOORS", x.ride(2), 1 + 2 + 256);
    }

    private static void whatIsAsked() {
        for (int what : new int[] {MIN, -2, -1, 3, 4, MAX}) {
            State.busy().refuses(BAD, "ride", what);
            State.empty().refuses(BAD, "ride", what);
            for (int floor : new int[] {-1, 0, 9, 10}) {
                State.busy().answers(BAD, "floor", floor, what);
            }
        }
    }

    /** One at the door, one behind: STAYING is who got in on a lesser FLOOR and gets out on a higher one. */
    private static void whoStaysAtAFloor() {
        Ways.forAll((a, b, c, d) -> {
            for (int front = 0; front < 2; front++) {
                GetsOutFirst x = new GetsOutFirst();
                x.rider(0, 0, front == 0 ? 100 * a + 10 * b : 100 * c + 10 * d + 4);
                x.rider(0, 0, front == 0 ? 100 * c + 10 * d + 4 : 100 * a + 10 * b);
                boolean in = a < c && c < b || a == c && front == 0;
                boolean out = a < d && d < b;
                String what = "10: RIDER " + front + " at the door " + a + " to " + b + ", behind it " + c + " to " + d;
                int floors = (in ? 1 << c : 0) + (out ? 1 << d : 0);
                Check.due(what + ", STEPS", x.ride(1), (in ? 1 : 0) + (out ? 1 : 0));
                Check.due(what + ", FLOORS", x.ride(2), floors);
                Check.due(what + ", COST", x.ride(0), 5 * Integer.bitCount(floors));
                Check.due(what + ", in", x.floor(c, 0), in ? 1 << front : 0);
                Check.due(what + ", out", x.floor(d, 0), out ? 1 << front : 0);
            }
        });
    }

    private static void nobodyStays() {
        // at 4 all who were there get out, and others get in on their places
        GetsOutFirst x = liftOf(40, 42, 44, 490, 494);
        Check.due("10: who steps out at 4", x.floor(4, 0), 1 << 3);
        Check.due("10: what it costs", x.floor(4, 1), 5);
        Check.due("10: who goes on", x.floor(4, 2), 8 + 16);
        x = liftOf(40, 42, 44, 494, 490);
        Check.due("10: the rear gets in first", x.floor(4, 0), 0);
        Check.due("10: it costs nothing", x.floor(4, 1), 0);
        x = liftOf(40, 42, 44);
        Check.due("10: all get out", x.floor(4, 0), 0);
        Check.due("10: nobody goes on", x.floor(4, 2), 0);
    }

    /** RIDER 1 steps out at 5; RIDER 2, on the other side, is late, if STAYING. */
    private static void whoIsLate() {
        for (int from = 0; from < 9; from++) {
            for (int to = from + 1; to <= 9; to++) {
                GetsOutFirst x = liftOf(52, 90, 100 * from + 10 * to + 1);
                boolean stays = from < 5 && 5 < to;
                Check.due("10: late from " + from + " to " + to, x.floor(5, 1), stays ? 6 : 5);
                x.set(0, 0, 2);
                Check.due("10: nobody steps out, nobody is late", x.floor(5, 1), 0);
                x.set(4, 0, 4);
                Check.due("10: still nobody", x.ride(0), 0);
            }
        }
    }

    /** Before any get out: who got in on a lesser FLOOR, and gets out there or on a higher one. */
    private static void howManyAreInside() {
        for (int from = 0; from < 9; from++) {
            for (int to = from + 1; to <= 9; to++) {
                GetsOutFirst x = new GetsOutFirst();
                Check.rule(x, "steps 10*inside+1;late inside;moves 0;");
                x.rider(0, 0, 52);
                x.rider(0, 0, 90);
                x.rider(0, 0, 100 * from + 10 * to + 1);
                int inside = 2 + (from < 5 && to >= 5 ? 1 : 0);
                boolean late = from < 5 && to > 5;
                String what = "9: inside, from " + from + " to " + to;
                Check.due(what, x.floor(5, 1), 10 * inside + 1 + (late ? inside : 0));
            }
        }
    }

    private static void whoIsInTheLift() {
        for (int from = 0; from < 9; from++) {
            for (int to = from + 1; to <= 9; to++) {
                GetsOutFirst x = liftOf(10, 100 * from + 10 * to + 5);
                for (int f = 0; f < 10; f++) {
                    int due = (f == 0 ? 1 : 0) + (from <= f && f < to ? 2 : 0);
                    Check.due("10: from " + from + " to " + to + ", as it goes on from " + f, x.floor(f, 2), due);
                }
            }
        }
    }

    private static void whoIsInTheWayByOneDoor() {
        for (int place = 0; place < 6; place++) {
            for (int other = 0; other < 6; other++) {
                if (place == other) {
                    continue;
                }
                boolean inTheWay = place / 2 < other / 2 && place % 2 == other % 2;
                GetsOutFirst x = liftOf(90 + place, 370 + other);
                Check.due("10: " + place + " ahead of " + other + ", in", x.floor(3, 0), inTheWay ? 1 : 0);
                Check.due("10: " + place + " ahead of " + other + ", out", x.floor(7, 0), inTheWay ? 1 : 0);
                Check.due("9: " + place + " ahead of " + other, x.ride(2), inTheWay ? 8 + 128 : 0);
            }
        }
    }

    /** Whoever stands on some of the PLACES, and one who gets in and out of another. */
    private static void whoIsInTheWayByTwoDoors() {
        for (int place = 0; place < 6; place++) {
            for (int set = 0; set < 64; set++) {
                if ((set >> place & 1) != 0 || Integer.bitCount(set) > 4) {
                    continue;
                }
                GetsOutFirst x = new GetsOutFirst();
                int front = 0;
                int back = 0;
                int r = 0;
                for (int p = 0; p < 6; p++) {
                    if ((set >> p & 1) != 0) {
                        x.rider(0, 0, 90 + p);
                        if (p % 2 == place % 2) {
                            front |= p < place ? 1 << r : 0;
                            back |= p > place ? 1 << r : 0;
                        }
                        r++;
                    }
                }
                x.rider(0, 0, 370 + place);
                String what = "10: those of " + set + " and one on " + place;
                Check.due(what + ", by the door", x.floor(3, 0), front);
                x.set(0, 0, 2);
                int due = Integer.bitCount(back) < Integer.bitCount(front) ? back : front;
                Check.due(what + ", by two doors, in", x.floor(3, 0), due);
                Check.due(what + ", by two doors, out", x.floor(7, 0), due);
            }
        }
    }

    private static void asManyByTheSecondDoor() {
        GetsOutFirst x = liftOf(90, 94, 372);
        x.set(0, 0, 2);
        Check.due("10: one by each, so by the door", x.floor(3, 0), 1);
        // RIDER 1 would let it by, were it SLIM and its NUMBER above SIZE
        x = new GetsOutFirst();
        x.rider(0, 0, 90);
        x.rider(1, 50, 94);
        x.rider(0, 4, 372);
        x.set(0, 0, 2);
        Check.due("10: fewer by the second one", x.floor(3, 0), 0);
        x.set(2, 2, 5);
        Check.due("10: as many by it", x.floor(3, 0), 1);
        x.set(0, 0, 1);
        Check.due("10: with one door", x.floor(3, 0), 1);
    }

    private static void theDoorsOfThoseWhoGetIn() {
        // by the second one too those of greater numbers are in nobody's way
        GetsOutFirst x = liftOf(90, 32, 394, 392);
        x.set(0, 0, 2);
        Check.due("10: 3 gets in by the door: as many by each", x.floor(3, 0), 1);
        x = liftOf(90, 32, 392, 394);
        x.set(0, 0, 2);
        Check.due("10: 2 gets in by the second one, 3 too", x.floor(3, 0), 0);
        x = liftOf(394, 392, 390);
        x.set(0, 0, 2);
        Check.due("10: nobody is in the way by the door", x.floor(3, 0), 0);
        x = liftOf(390, 392, 394);
        x.set(0, 0, 2);
        Check.due("10: nobody is by the second one", x.floor(3, 0), 0);
        x.set(0, 0, 1);
        Check.due("10: two are by the door", x.floor(3, 0), 3);
    }

    private static void lesserNumbersAlone() {
        int[] places = {0, 2, 4};
        for (int a = 0; a < 3; a++) {
            for (int b = 0; b < 3; b++) {
                int c = 3 - a - b;
                if (a == b || c < 0 || c > 2 || c == a || c == b) {
                    continue;
                }
                int[] order = {a, b, c};
                GetsOutFirst x = liftOf(90 + places[a], 90 + places[b], 90 + places[c]);
                int due = 0;
                for (int r = 0; r < 3; r++) {
                    for (int o = 0; o < r; o++) {
                        due |= order[o] < order[r] ? 1 << o : 0;
                    }
                }
                Check.due("10: at 0, rows " + a + b + c, x.floor(0, 0), due);
                Check.due("10: at 9, all get out", x.floor(9, 0), 0);
            }
        }
    }

    private static void aFullLiftGetsInAndOut() {
        GetsOutFirst x = liftOf(90, 91, 92, 93, 94);
        Check.due("10: all get in", x.floor(0, 0), 1 + 2 + 4);
        Check.due("10: and cost", x.floor(0, 1), 15);
        Check.due("10: all go on", x.floor(0, 2), 31);
        Check.due("10: all go on to the end", x.floor(8, 2), 31);
        Check.due("10: all get out", x.floor(9, 0) + x.floor(9, 1) + x.floor(9, 2), 0);
        x = liftOf(95, 94, 93, 92, 91);
        Check.due("10: from behind", x.ride(1), 0);
        x.set(3, 0, 1);
        Check.due("10: two make way for one, two are late", x.floor(1, 1), 5 + 5 + 1 + 1);
        Check.due("10: these two", x.floor(1, 0), 4 + 16);
    }

    private static void costsByKindsAndBounds() {
        int[] steps = {0, 1, 2, 3, 49, 50, 51, 97, 98, 99, 100, 150, 9999};
        for (int size = 0; size < 10; size++) {
            for (int v : steps) {
                int told = Math.min(99, v);
                int[] due = {told, told, 2 * told, Math.max(0, told - 1), 2 * told + size, told / 2};
                for (int kind = 0; kind < 6; kind++) {
                    GetsOutFirst x = new GetsOutFirst();
                    Check.rule(x, "steps " + v + ";late 0;moves 0;");
                    x.rider(kind, size, 92);
                    x.rider(0, 9, 95);
                    x.rider(0, 9, 164);
                    // one who lets by costs nothing
                    boolean lets = kind == 5 && size == 0;
                    Check.due("9: KIND " + kind + ", SIZE " + size + ", steps " + v, x.ride(0), lets ? 0 : 2 * due[kind]);
                }
            }
        }
    }

    private static void costsAre0AtLeastInTheEnd() {
        String[] none = {"0", "-1", "-3", "-9999", "0-99*99"};
        for (String steps : none) {
            int[] due = {0, 0, 0, 0, 7, 0};
            for (int kind = 0; kind < 6; kind++) {
                GetsOutFirst x = new GetsOutFirst();
                Check.rule(x, "steps " + steps + ";late 0;moves 0;");
                x.rider(kind, 7, 92);
                x.rider(0, 9, 94);
                Check.due("9: KIND " + kind + ", steps " + steps, x.ride(0), due[kind]);
                Check.due("9: who steps out steps out", x.ride(1), 1);
            }
        }
        GetsOutFirst x = new GetsOutFirst();
        Check.rule(x, "steps 0;late 2;moves 0;");
        x.rider(3, 0, 92);
        x.rider(0, 9, 91);
        x.rider(0, 9, 194);
        Check.due("10: nothing is taken off from what others cost", x.floor(1, 1), 2);
    }
}
