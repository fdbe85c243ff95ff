/** Promises 11 to 16: where to stand, and what it costs in the mean. */
public final class StandTest {
    public static void main(String[] args) {
        standIsCheapest();
        standByTheSecondDoor();
        standWithoutThoseWhoWent();
        movesCount();
        ofLikeOnesTheFirst();
        standKeepsTwoApart();
        standIsTheFirstOfAllWays();
        standIsNotStale();
        standIsNotStaleByAnyThing();
        standRefuses();
        oneMoves();
        oneRefuses();
        twoChange();
        changeKeepsTwoApart();
        ofLikeChangesTheFirst();
        theSecondDoor();
        whoWalks();
        allTrulyStand();
        theMean();
        theMeanOfThoseThere();
        meanRefuses();
        Check.end("StandTest");
    }

    /** RIDER 0 at the door to the top, RIDER 1 behind it to floor 2: RIDER 0 steps out at 0 and at 2. */
    private static GetsOutFirst two() {
        GetsOutFirst x = new GetsOutFirst();
        x.rider(0, 5, 90);
        x.rider(0, 5, 24);
        return x;
    }

    private static void standsAt(String what, GetsOutFirst x, int total, int... places) {
        Check.due("11: " + what, x.stand(GetsOutFirst.NONE), total);
        for (int r = 0; r < places.length; r++) {
            Check.due("11: " + what + ", RIDER " + r, x.stand(r), places[r]);
        }
    }

    private static void standIsCheapest() {
        GetsOutFirst x = two();
        Check.due("11: now", x.ride(0), 10);
        standsAt("one moves", x, 3, 0, 1);
        Check.due("11: nothing is changed", x.told(1, 4), 4);
        x.set(0, 0, 2);
        standsAt("by two doors", x, 0, 0, 4);
        standsAt("nobody", new GetsOutFirst(), 0);
    }

    private static void standByTheSecondDoor() {
        GetsOutFirst x = new GetsOutFirst();
        x.rider(0, 0, 90);
        x.rider(0, 0, 52);
        x.rider(0, 0, 95);
        x.set(0, 0, 2);
        standsAt("1 gets out by the second door", x, 0, 0, 2, 5);
        x.set(4, 2, 4);
        Check.due("11: 2 is in its way now", x.ride(0), 6);
        standsAt("1 moves", x, 3, 0, 1, 4);
    }

    private static void standWithoutThoseWhoWent() {
        GetsOutFirst x = two();
        x.image();
        x.rider(0, 0, 92);
        x.rider(0, 0, 91);
        x.back();
        standsAt("two went again", x, 3, 0, 1);
        Check.due("11: who went", x.stand(2), -100);
        Check.due("15: one moves", x.stands(), 1);
    }

    private static void movesCount() {
        GetsOutFirst x = two();
        Check.rule(x, "steps 5;late 1;moves 99;");
        standsAt("moving is too dear", x, 10, 0, 4);
        Check.rule(x, "steps 5;late 1;moves 10-4*row;");
        standsAt("row of where one would stand", x, 2, 0, 5);
        Check.rule(x, "steps 5;late 1;moves 1+8*rider;");
        standsAt("another one moves", x, 1, 1, 4);
        Check.rule(x, "steps 5;late 1;moves inside*9+size-4;");
        standsAt("nobody is inside", x, 1, 0, 1);
        x = new GetsOutFirst();
        x.rider(0, 0, 190);
        x.rider(0, 0, 284);
        Check.rule(x, "steps 5;late 1;moves floor;");
        standsAt("floor is FROM", x, 1, 1, 4);
        Check.due("12: floor is FROM", x.one(1, 1), 2);
    }

    private static void ofLikeOnesTheFirst() {
        GetsOutFirst x = new GetsOutFirst();
        x.rider(0, 0, 93);
        x.rider(0, 0, 95);
        x.rider(0, 0, 91);
        Check.rule(x, "steps 5;late 1;moves 0;");
        // 2 is behind whoever stands at a door by then, unless 1 leaves one free
        standsAt("moving is free", x, 0, 0, 3, 1);
    }

    private static void standKeepsTwoApart() {
        GetsOutFirst x = new GetsOutFirst();
        x.rider(0, 0, 35);
        x.rider(0, 0, 394);
        x.rider(0, 0, 93);
        Check.rule(x, "steps 5;late 1;moves 0;");
        standsAt("two on one place at their times", x, 0, 0, 0, 1);
    }

    private static GetsOutFirst liftOf(int doors, String rule, int[] kinds, int[] whats, int[] ways, int[] places) {
        GetsOutFirst x = new GetsOutFirst();
        x.set(0, 0, doors);
        Check.feed(x, rule);
        x.force(x.text());
        for (int r = 0; r < ways.length; r++) {
            if (x.rider(kinds[r], whats[r], ways[r] / 10 * 10 + places[r]) != r) {
                return null;
            }
        }
        return x;
    }

    /** Each way is made anew, and its ride asked for. */
    private static void standIsTheFirstOfAllWays(int doors, int moves, int[] kinds, int[] whats, int[] ways) {
        String rule = "steps 3+rider+row*4+floor;late 1+row*floor;moves " + moves + ";";
        int n = ways.length;
        int[] now = new int[n];
        for (int r = 0; r < n; r++) {
            now[r] = ways[r] % 10;
        }
        int[] best = null;
        int least = 0;
        for (int code = 0; code < Math.pow(6, n); code++) {
            int[] places = new int[n];
            int total = 0;
            for (int r = n - 1, rest = code; r >= 0; r--, rest /= 6) {
                places[r] = rest % 6;
                total += places[r] == now[r] ? 0 : moves;
            }
            GetsOutFirst x = liftOf(doors, rule, kinds, whats, ways, places);
            if (x != null && (best == null || total + x.ride(0) < least)) {
                best = places;
                least = total + x.ride(0);
            }
        }
        GetsOutFirst x = liftOf(doors, rule, kinds, whats, ways, now);
        standsAt("of all ways, " + doors + " doors, moves " + moves, x, least, best);
        int moved = 0;
        for (int r = 0; r < n; r++) {
            moved += best[r] == now[r] ? 0 : 1;
        }
        Check.due("15: of all ways", x.stands(), moved);
        for (int r = 0; r < n; r++) {
            Check.due("15: of all ways, RIDER " + r, x.told(r, 4), best[r]);
        }
    }

    private static void standIsTheFirstOfAllWays() {
        for (int moves = 0; moves < 4; moves++) {
            for (int doors = 1; doors < 3; doors++) {
                standIsTheFirstOfAllWays(doors, moves, new int[] {0, 0, 0, 0}, new int[] {0, 0, 0, 0}, new int[] {95, 24, 93, 72});
                standIsTheFirstOfAllWays(doors, moves, new int[] {2, 4, 0, 1}, new int[] {3, 15, 9, 46}, new int[] {90, 152, 264, 383});
                standIsTheFirstOfAllWays(doors, moves, new int[] {5, 3, 0, 0}, new int[] {38, 47, 6, 7}, new int[] {64, 92, 180, 135});
            }
        }
        standIsTheFirstOfAllWays(1, 0, new int[] {0, 0, 0, 0, 0}, new int[5], new int[] {90, 91, 182, 183, 194});
    }

    private static void standIsNotStale() {
        GetsOutFirst x = two();
        standsAt("first", x, 3, 0, 1);
        x.set(4, 0, 1);
        standsAt("after set", x, 0, 1, 4);
        x.image();
        x.set(4, 0, 2);
        standsAt("after another set", x, 3, 1, 4);
        x.back();
        standsAt("after back", x, 0, 1, 4);
        x.rider(0, 5, 123);
        standsAt("after a rider", x, 3, 1, 4, 0);
        x.sheet(0, 2, 3);
        x.cell(0, 2, 122);
        x.riders(0, 2, 0, 1);
        Check.due("11: after riders", x.stand(3), 2);
        Check.feed(x, "steps 0;late 0;moves 0;");
        x.text();
        x.force(1);
        standsAt("after force", x, 0, 0, 1, 2, 3);
        x.stands();
        standsAt("after stands", x, 0, 0, 1, 2, 3);
        GetsOutFirst y = two();
        standsAt("before stands", y, 3, 0, 1);
        y.stands();
        standsAt("then no move is needed", y, 0, 0, 1);
        x.force(0);
        x.set(0, 0, 2);
        x.set(0, 0, 1);
        Check.due("11: after force and doors", x.stand(GetsOutFirst.NONE) > 0 ? 1 : 0, 1);
    }

    /** What STAND tells before and after these calls, all on one lift. */
    private static void standTells(String what, State s, int before, int after, Call... changes) {
        GetsOutFirst x = s.make();
        Check.due("11: before another " + what, x.stand(GetsOutFirst.NONE), before);
        for (Call c : changes) {
            Check.holds("11: " + c.written() + " is taken", c.on(x) >= 0);
        }
        Check.due("11: by another " + what, x.stand(GetsOutFirst.NONE), after);
    }

    private static void standIsNotStaleByAnyThing() {
        String dear = "steps 5;late 1;moves 99;";
        State two = State.two().read(dear).with("force", 1);
        standTells("DOORS", two, 10, 0, Call.of("set", 0, 0, 2));
        standTells("TO", two, 10, 5, Call.of("set", 3, 0, 2));
        standTells("PLACE", two, 10, 0, Call.of("set", 4, 1, 1));
        standTells("THE RULE", two, 10, 3, Call.of("force", 0));
        standTells("RIDER more", two, 10, 11, Call.of("rider", 0, 5, 191));
        State slim = new State("a SLIM one in front").with("rider", 1, 45, 90).with("rider", 0, 5, 24);
        slim.read(dear).with("force", 1);
        standTells("NUMBER", slim, 10, 0, Call.of("set", 1, 0, 9));
        standTells("SIZE", slim, 10, 0, Call.of("set", 2, 1, 3));
        // RIDER 1 is in the way as RIDER 0 gets out; it went, and another one came instead
        State since = new State("came since").read(dear).with("force", 1).with("rider", 0, 5, 24).with("image").with("rider", 0, 5, 90);
        standTells("KIND", since, 5, 0, Call.of("back"), Call.of("rider", 3, 5, 90));
        standTells("FROM", since, 5, 0, Call.of("back"), Call.of("rider", 0, 5, 290));
        standTells("number of RIDERS", since, 5, 0, Call.of("back"));
    }

    private static void standRefuses() {
        GetsOutFirst x = two();
        for (int what : new int[] {-2, 2, 5, Integer.MAX_VALUE, Integer.MIN_VALUE}) {
            Check.due("11: stand(" + what + ")", x.stand(what), -100);
        }
        Check.due("11: stand(0) of nobody", new GetsOutFirst().stand(0), -100);
    }

    private static void oneMoves() {
        GetsOutFirst x = two();
        Check.due("12: place of 0", x.one(0, 0), 1);
        Check.due("12: cost of 0", x.one(0, 1), 3);
        Check.due("12: place of 1", x.one(1, 0), 1);
        Check.due("12: cost of 1", x.one(1, 1), 3);
        Check.due("12: nothing is changed", x.ride(0), 10);
        Check.rule(x, "steps 5;late 1;moves 10;");
        Check.due("12: as dear as to stay, so the first", x.one(0, 0), 0);
        Check.due("12: and its cost", x.one(0, 1), 10);
        Check.due("12: as dear as to stay, elsewhere first", x.one(1, 0), 1);
        x = new GetsOutFirst();
        x.rider(0, 0, 32);
        x.rider(0, 0, 394);
        x.rider(0, 0, 90);
        Check.rule(x, "steps 5;late 1;moves 0;");
        Check.due("12: a place taken all the time", x.one(0, 0), 1);
        Check.due("12: a place free at its time", x.one(1, 0), 1);
    }

    private static void oneRefuses() {
        GetsOutFirst x = two();
        int[][] bad = {{-1, 0}, {2, 0}, {5, 0}, {0, -1}, {0, 2}, {Integer.MAX_VALUE, 0}, {0, Integer.MIN_VALUE}};
        for (int[] b : bad) {
            Check.due("12: one(" + b[0] + ", " + b[1] + ")", x.one(b[0], b[1]), GetsOutFirst.BAD);
        }
    }

    private static void twoChange() {
        GetsOutFirst x = two();
        Check.rule(x, "steps 5;late 1;moves 99;");
        Check.due("13: who change", x.change(0), 1);
        Check.due("13: moves don't count", x.change(1), 0);
        Check.due("13: nothing is changed", x.ride(0), 10);
        x.set(0, 0, 2);
        Check.due("13: no change is less", x.change(0), GetsOutFirst.NONE);
        Check.due("13: as now", x.change(1), 0);
        for (int what : new int[] {-1, 2, Integer.MAX_VALUE, Integer.MIN_VALUE}) {
            Check.due("13: change(" + what + ")", x.change(what), GetsOutFirst.BAD);
        }
        Check.due("13: nobody", new GetsOutFirst().change(0), GetsOutFirst.NONE);
    }

    private static void changeKeepsTwoApart() {
        GetsOutFirst x = new GetsOutFirst();
        x.rider(0, 0, 20);
        x.rider(0, 0, 290);
        x.rider(0, 0, 94);
        Check.due("13: now", x.ride(0), 5);
        Check.due("13: none can", x.change(0), GetsOutFirst.NONE);
        Check.due("13: as now", x.change(1), 5);
        x = new GetsOutFirst();
        x.rider(0, 0, 90);
        x.rider(0, 0, 54);
        x.rider(0, 0, 594);
        Check.due("13: a change would be less", x.ride(0), 10);
        Check.due("13: but two would stand on one place", x.change(0), GetsOutFirst.NONE);
        Check.due("13: as it is", x.change(1), 10);
    }

    private static void ofLikeChangesTheFirst() {
        GetsOutFirst x = new GetsOutFirst();
        x.rider(0, 0, 95);
        x.rider(0, 0, 90);
        x.rider(0, 0, 92);
        x.rider(0, 0, 94);
        // 1 and 2 step out at floor 0: 10; 1 and 3 changed: 0; with RIDER 0 in the front row or the middle: 5 or 10
        Check.due("13: now", x.ride(0), 10);
        Check.due("13: 10 times the lesser, and the other", x.change(0), 13);
        Check.due("13: cost then", x.change(1), 0);
        x = new GetsOutFirst();
        x.rider(0, 0, 90);
        x.rider(0, 0, 94);
        x.rider(0, 0, 91);
        Check.due("13: 0 and 1, as good as 0 and 2", x.change(0), 1);
        Check.due("13: cost of the first", x.change(1), 0);
        x = new GetsOutFirst();
        x.rider(0, 0, 94);
        x.rider(0, 0, 92);
        x.rider(0, 0, 90);
        x.rider(0, 0, 91);
        x.rider(0, 0, 95);
        // 3 makes way for 4; 4 gets in last, so any place at the door will do, 2's as 3's
        Check.due("13: five now", x.ride(0), 5);
        Check.due("13: two of five", x.change(0), 24);
        Check.due("13: two of five then", x.change(1), 0);
    }

    private static void theSecondDoor() {
        GetsOutFirst x = two();
        Check.due("14: with one door now", x.second(0), 10);
        x.set(0, 0, 2);
        Check.due("14: with two doors now", x.second(0), 10);
        Check.due("14: the doors stay", x.count(1), 2);
        x = new GetsOutFirst();
        x.rider(0, 0, 90);
        x.rider(0, 0, 24);
        x.rider(0, 0, 91);
        x.rider(0, 0, 95);
        x.rider(0, 0, 23);
        Check.rule(x, "steps 0;late 50;moves 0;");
        Check.due("14: below 0", x.second(0), -50);
        for (int what : new int[] {-1, 2, Integer.MAX_VALUE, Integer.MIN_VALUE}) {
            Check.due("14: second(" + what + ")", x.second(what), -100000);
        }
    }

    private static void whoWalks() {
        Check.due("14: nobody", new GetsOutFirst().second(1), GetsOutFirst.NONE);
        Check.due("14: of like ones the first", two().second(1), 0);
        GetsOutFirst x = new GetsOutFirst();
        x.rider(0, 0, 91);
        x.rider(0, 0, 90);
        x.rider(0, 0, 24);
        Check.due("14: now", x.ride(0), 11);
        Check.due("14: who is in the way", x.second(1), 1);
        Check.rule(x, "steps inside*20;late 0;moves 0;");
        Check.due("14: by inside, now", x.ride(0), 60);
        x.rider(0, 0, 93);
        x.set(0, 0, 2);
        Check.due("14: with two doors nobody matters", x.second(1), 0);
        x = new GetsOutFirst();
        x.rider(0, 0, 91);
        Check.due("14: one alone", x.second(1), 0);
        x = new GetsOutFirst();
        x.rider(0, 0, 90);
        x.rider(0, 0, 44);
        x.rider(0, 0, 52);
        x.rider(0, 0, 93);
        x.rider(0, 0, 95);
        Check.rule(x, "steps 5+20*(rider=0);late 0;moves 0;");
        Check.due("14: the first of five", x.second(1), 0);
    }

    private static void allTrulyStand() {
        GetsOutFirst x = two();
        Check.due("15: one moves", x.stands(), 1);
        Check.due("15: RIDER 0", x.told(0, 4), 0);
        Check.due("15: RIDER 1", x.told(1, 4), 1);
        Check.due("15: then", x.ride(0), 0);
        Check.due("15: nobody moves again", x.stands(), 0);
        Check.due("15: nobody", new GetsOutFirst().stands(), 0);
        x = new GetsOutFirst();
        x.rider(0, 0, 93);
        x.rider(0, 0, 95);
        Check.rule(x, "steps 5;late 1;moves 0;");
        Check.due("15: both move, though they needn't", x.stands(), 2);
    }

    private static void meanIs(String what, GetsOutFirst x, int which, long above, long below) {
        Check.due("16: " + what + ", above", x.mean(which, 0), above);
        Check.due("16: " + what + ", below", x.mean(which, 1), below);
    }

    private static void theMean() {
        GetsOutFirst x = new GetsOutFirst();
        meanIs("nobody", x, 0, 0, 1);
        meanIs("nobody is free", x, 1, 1, 1);
        x = two();
        meanIs("all come", x, 0, 10, 1);
        meanIs("all come, free", x, 1, 0, 1);
        x.set(5, 0, 50);
        x.set(5, 1, 50);
        meanIs("halves", x, 0, 5, 2);
        meanIs("halves, free", x, 1, 3, 4);
        x.set(5, 0, 33);
        x.set(5, 1, 71);
        meanIs("33 and 71", x, 0, 2343, 1000);
        meanIs("33 and 71, free", x, 1, 7657, 10000);
        x.set(5, 1, 0);
        meanIs("one never comes", x, 0, 0, 1);
        meanIs("one never comes, free", x, 1, 1, 1);
        x = new GetsOutFirst();
        x.rider(4, 9, 90);
        x.rider(4, 9, 92);
        x.rider(4, 9, 94);
        x.rider(4, 9, 91);
        x.rider(4, 9, 93);
        Check.rule(x, "steps 99;late 99;moves 0;");
        for (int r = 0; r < 5; r++) {
            x.set(5, r, 99);
        }
        // at floor 0: each of 0 (with 1 or 2), 1 (with 2), 3 (with 4) costs 2 * 99 + 9
        long one = 99L * 99;
        long sum = 207 * (one * 10000 * 100 + (99L * (10000 - 1)) * 10000 + one * 10000 * 100);
        java.math.BigInteger above = java.math.BigInteger.valueOf(sum);
        java.math.BigInteger below = java.math.BigInteger.valueOf(10000000000L);
        java.math.BigInteger common = above.gcd(below);
        meanIs("five", x, 0, above.divide(common).longValue(), below.divide(common).longValue());
    }

    private static void theMeanOfThoseThere() {
        GetsOutFirst x = two();
        x.rider(0, 0, 91);
        x.set(5, 2, 50);
        Check.rule(x, "steps inside*10;late 0;moves 0;");
        meanIs("inside counts those there", x, 0, 25, 1);
        x = new GetsOutFirst();
        x.rider(0, 0, 91);
        x.rider(0, 0, 90);
        x.rider(0, 0, 24);
        x.set(5, 0, 0);
        Check.rule(x, "steps 10*rider;late 0;moves 0;");
        meanIs("numbers stay", x, 0, 20, 1);
        x.set(0, 0, 2);
        meanIs("by the doors that are", x, 0, 0, 1);
        Check.due("16: nothing is changed", x.count(0), 3);
    }

    private static void meanRefuses() {
        GetsOutFirst x = two();
        int[][] bad = {{-1, 0}, {2, 0}, {0, -1}, {0, 2}, {Integer.MAX_VALUE, 1}, {1, Integer.MIN_VALUE}};
        for (int[] b : bad) {
            Check.due("16: mean(" + b[0] + ", " + b[1] + ")", x.mean(b[0], b[1]), GetsOutFirst.NO);
        }
    }
}
