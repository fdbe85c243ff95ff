/** The bounds of promises 25 to 29: sheets of 0 to 40, places outside, numbers copied onto themselves, riders left out. */
public final class HostBoundsTest {
    private static final int NONE = GetsOutFirst.NONE, BAD = GetsOutFirst.BAD;
    private static final int MIN = Integer.MIN_VALUE, MAX = Integer.MAX_VALUE;
    private static final int[] NO_SHEETS = {MIN, -2, -1, 4, 5, MAX};
    private static final int[] NO_RIDERS = {MIN, -2, -1, 5, 6, MAX};

    public static void main(String[] args) {
        allAreMissingAtFirst();
        sheetsAre0To3();
        sortsAre0To2();
        sizesAre0To40();
        sheetRefusesInOrder();
        aMissingSheetHasNoSize();
        aSheetIsAll0();
        aRefusedSheetChangesNothing();
        cellsOfEachSize();
        cellRefusesInOrder();
        cellsTakeTheLowestBits();
        aRefusedCellChangesNothing();
        copiesOfEachSize();
        copiesOntoThemselves();
        copiesOf40();
        farCopies();
        copyRefusesInOrder();
        aRefusedCopyChangesNothing();
        ridersFrom0To5();
        ridersToTheLastItem();
        ridersOutside();
        ridersLeftOut();
        ridersOfAFullLift();
        ridersRefuseInOrder();
        ridersByNarrowSheets();
        refusedRidersChangeNothing();
        takenRefusesInOrder();
        takenByEachKind();
        takenTellsTheNumber();
        Check.end("HostBoundsTest");
    }

    private static void fill(GetsOutFirst x, int sheet, int sort, int... items) {
        Check.due("25: sheet", x.sheet(sheet, sort, items.length), 1);
        for (int i = 0; i < items.length; i++) {
            Check.due("26: cell", x.cell(sheet, i, items[i]), 1);
        }
    }

    private static State filled(State s, int sheet, int sort, int... items) {
        s.with("sheet", sheet, sort, items.length);
        for (int i = 0; i < items.length; i++) {
            s.with("cell", sheet, i, items[i]);
        }
        return s;
    }

    /** An item from 0 to 9 and at most 10 * 9, seen as the NUMBER and SIZE of a RIDER who comes by SHEET 3 and goes. */
    private static int item(GetsOutFirst x, int sheet, int sort, int i) {
        x.image();
        x.sheet(3, sort, 3);
        x.cell(3, 2, 10);
        x.copy(sheet, i, 3, 1, 1);
        int came = x.riders(3, sort, 0, 1);
        int r = x.count(0) - 1;
        int item = came == 1 ? 10 * x.told(r, 1) + x.told(r, 2) : -1;
        x.back();
        return item;
    }

    private static void itemsAre(String what, GetsOutFirst x, int sheet, int sort, int... due) {
        for (int i = 0; i < due.length; i++) {
            Check.due(what + ": item " + i, item(x, sheet, sort, i), due[i]);
        }
        Check.due(what + ": its size", x.cell(sheet, due.length, 0), -12);
    }

    private static void allAreMissingAtFirst() {
        State s = State.empty();
        for (int sheet = 0; sheet < 4; sheet++) {
            s.answers(-11, "cell", sheet, 0, 0);
            s.answers(-11, "landings", sheet);
            s.answers(-11, "copy", sheet, 0, sheet, 0, 0);
            for (int sort = 0; sort < 3; sort++) {
                s.answers(-11, "riders", sheet, sort, 0, 0);
                s.answers(-11, "riders", sheet, sort, 0, 5);
            }
        }
    }

    private static void sheetsAre0To3() {
        for (int sheet : NO_SHEETS) {
            for (State s : new State[] {State.empty(), State.busy()}) {
                s.refuses(BAD, "sheet", sheet, 0, 0);
                s.refuses(BAD, "sheet", sheet, -1, 0);
                s.refuses(BAD, "cell", sheet, 0, 0);
                s.refuses(BAD, "copy", sheet, 0, 0, 0, 1);
                s.refuses(BAD, "copy", 0, 0, sheet, 0, 1);
                s.refuses(BAD, "riders", sheet, 0, 0, 1);
            }
        }
        for (int sheet = 0; sheet < 4; sheet++) {
            GetsOutFirst x = new GetsOutFirst();
            Check.due("25: sheet " + sheet, x.sheet(sheet, 2, 1), 1);
            for (int other = 0; other < 4; other++) {
                Check.due("25: of sheet " + sheet + ", " + other, x.cell(other, 0, 7), other == sheet ? 1 : -11);
            }
        }
    }

    private static void sortsAre0To2() {
        for (int sort : new int[] {MIN, -100, -3, -2, 3, 4, 256, MAX}) {
            State.empty().refuses(BAD, "sheet", 0, sort, 0);
            State.busy().refuses(BAD, "sheet", 0, sort, 10);
            State.busy().refuses(BAD, "riders", 0, sort, 0, 1);
        }
        State.busy().refuses(BAD, "riders", 0, -1, 0, 1);
        State.busy().refuses(BAD, "riders", 3, -1, 0, 1);
        for (int sort = 0; sort < 3; sort++) {
            State s = new State("sort " + sort).with("sheet", 1, sort, 3);
            for (int other = 0; other < 3; other++) {
                s.answers(other == sort ? 0 : -13, "riders", 1, other, 0, 0);
                State two = new State("sorts " + sort + ", " + other).with("sheet", 1, sort, 3).with("sheet", 2, other, 3);
                two.answers(other == sort ? 3 : -13, "copy", 1, 0, 2, 0, 3);
                two.answers(other == sort ? 0 : -13, "copy", 1, 0, 2, 0, 0);
            }
        }
    }

    private static void sizesAre0To40() {
        for (int sort = 0; sort < 3; sort++) {
            for (int n = -3; n <= 43; n++) {
                int due = n < 0 ? -14 : n > 40 ? BAD : 1;
                GetsOutFirst x = new GetsOutFirst();
                Check.due("25: size " + n, x.sheet(2, sort, n), due);
                if (due != 1) {
                    Check.due("25: it is missing still", x.cell(2, 0, 0), -11);
                    continue;
                }
                Check.due("25: ahead of the first", x.cell(2, -1, 0), -12);
                for (int i = 0; i < n; i++) {
                    Check.due("25: item " + i + " of " + n, x.cell(2, i, 0), 1);
                }
                Check.due("25: behind the last", x.cell(2, n, 0), -12);
            }
        }
    }

    private static void sheetRefusesInOrder() {
        State s = State.busy();
        for (int n : new int[] {MIN, -1}) {
            s.refuses(-14, "sheet", 0, 0, n);
            s.refuses(-14, "sheet", 3, 2, n);
            s.refuses(BAD, "sheet", 4, 0, n);
            s.refuses(BAD, "sheet", -1, 0, n);
            s.refuses(BAD, "sheet", 0, 3, n);
            s.refuses(BAD, "sheet", 0, -2, n);
        }
        for (int n : new int[] {41, 42, MAX}) {
            s.refuses(BAD, "sheet", 0, 0, n);
            s.refuses(BAD, "sheet", 3, 2, n);
            s.refuses(BAD, "sheet", 4, 0, n);
            s.refuses(BAD, "sheet", 0, 3, n);
        }
    }

    private static void aMissingSheetHasNoSize() {
        for (int n : new int[] {MIN, -1, 0, 1, 40, 41, MAX}) {
            State s = State.busy().with("sheet", 1, -1, n);
            s.answers(1, "sheet", 1, -1, n);
            s.answers(-11, "cell", 1, 0, 0);
            s.answers(-11, "landings", 1);
            s.answers(NONE, "landings", 2);
            s.answers(1, "sheet", 1, 0, 0);
            State.empty().answers(1, "sheet", 3, -1, n);
        }
    }

    private static void aSheetIsAll0() {
        int[] nines = new int[13];
        java.util.Arrays.fill(nines, 9);
        for (int sort = 0; sort < 3; sort++) {
            for (int then = 0; then < 3; then++) {
                GetsOutFirst x = new GetsOutFirst();
                fill(x, 0, sort, nines);
                x.sheet(0, then, 5);
                x.sheet(0, then, 13);
                itemsAre("25: a sheet of sort " + then + " behind one of " + sort, x, 0, then, new int[13]);
                fill(x, 0, sort, nines);
                x.sheet(0, -1, 0);
                x.sheet(0, then, 12);
                itemsAre("25: a sheet of sort " + then + " that was missing", x, 0, then, new int[12]);
            }
        }
        GetsOutFirst x = new GetsOutFirst();
        fill(x, 0, 0, nines);
        x.film(0, 10);
        itemsAre("19: a film behind a sheet", x, 0, 0, new int[10]);
    }

    private static void aRefusedSheetChangesNothing() {
        for (State s : new State[] {State.three(), State.busy()}) {
            for (int sheet = 0; sheet < 4; sheet++) {
                s.refuses(-14, "sheet", sheet, 0, -1);
                s.refuses(BAD, "sheet", sheet, 0, 41);
                s.refuses(BAD, "sheet", sheet, 3, 5);
                s.refuses(BAD, "sheet", sheet, -2, 5);
            }
        }
    }

    private static void cellsOfEachSize() {
        for (int n : new int[] {0, 1, 2, 10, 11, 39, 40}) {
            for (int i = -2; i <= 42; i++) {
                State s = new State("size " + n).with("sheet", 1, 1, n);
                s.answers(i >= 0 && i < n ? 1 : -12, "cell", 1, i, 3);
            }
            for (int i : new int[] {MIN, MIN + 1, -41, -40, 255, 256, MAX - 1, MAX}) {
                new State("size " + n).with("sheet", 1, 1, n).refuses(-12, "cell", 1, i, 3);
            }
        }
    }

    private static void cellRefusesInOrder() {
        State s = State.busy();
        for (int i : new int[] {MIN, -1, 0, 9, 10, MAX}) {
            s.refuses(BAD, "cell", 4, i, 0);
            s.refuses(BAD, "cell", -1, i, 0);
            s.refuses(-11, "cell", 3, i, 0);
        }
        s.refuses(-12, "cell", 0, 10, 0);
        s.refuses(-12, "cell", 0, -1, 0);
        s.answers(1, "cell", 0, 9, MIN);
        s.answers(1, "cell", 0, 0, MAX);
    }

    private static void cellsTakeTheLowestBits() {
        int[] values = {0, 1, 5, 6, 127, 128, 129, 255, 256, 257, 261, -1, -128, -129, -251, -256, 32767, 32768, 32773, 65535, 65536,
            65541, 65541 - 2 * 65536, MAX, MIN, MIN + 5, MAX - 250};
        for (int sort = 0; sort < 3; sort++) {
            for (int v : values) {
                int kept = sort == 0 ? (v & 127) - (v & 128) : sort == 1 ? (v & 32767) - (v & 32768) : v;
                GetsOutFirst x = new GetsOutFirst();
                fill(x, 1, sort, v, 0, 10);
                boolean comes = kept >= 0 && kept <= 5;
                Check.due("26: KIND " + v + " in sort " + sort, x.riders(1, sort, 0, 1), comes ? 1 : 0);
                Check.due("26: KIND " + v + " told", x.told(0, 0), comes ? kept : BAD);
                x = new GetsOutFirst();
                fill(x, 1, sort, 0, 0, v);
                boolean way = kept >= 0 && kept / 100 <= 8 && kept / 10 % 10 > kept / 100 && kept % 10 <= 5;
                Check.due("26: way " + v + " in sort " + sort, x.riders(1, sort, 0, 1), way ? 1 : 0);
            }
        }
        for (int sort = 0; sort < 3; sort++) {
            GetsOutFirst x = new GetsOutFirst();
            fill(x, 1, sort, 0, 0, 890);
            // 890 is 122 in a byte: from 1 to 2, on PLACE 2
            Check.due("26: 890 in sort " + sort, x.riders(1, sort, 0, 1), 1);
            Check.due("26: FROM", x.told(0, 6), sort == 0 ? 1 : 8);
            Check.due("26: TO", x.told(0, 3), sort == 0 ? 2 : 9);
            Check.due("26: PLACE", x.told(0, 4), sort == 0 ? 2 : 0);
        }
    }

    private static void aRefusedCellChangesNothing() {
        for (State s : new State[] {State.three(), State.busy()}) {
            for (int sheet = 0; sheet < 3; sheet++) {
                s.refuses(-12, "cell", sheet, 40, 7);
                s.refuses(-12, "cell", sheet, -1, 7);
                s.refuses(-12, "cell", sheet, MIN, 7);
            }
            s.refuses(-11, "cell", 3, 0, 7);
            s.refuses(BAD, "cell", 4, 0, 7);
        }
    }

    /** From a row to another one, of all sizes to 3, all numbers to just outside. */
    private static void copiesOfEachSize() {
        for (int a = 0; a <= 3; a++) {
            for (int b = 0; b <= 3; b++) {
                for (int i = -1; i <= 4; i++) {
                    for (int j = -1; j <= 4; j++) {
                        for (int n = -1; n <= 4; n++) {
                            copy((a + b) % 3, a, i, b, j, n);
                        }
                    }
                }
            }
        }
    }

    private static int[] numbersFrom(int first, int n) {
        int[] row = new int[n];
        for (int i = 0; i < n; i++) {
            row[i] = first + i;
        }
        return row;
    }

    private static boolean inside(int size, int i, int n) {
        for (long k = i; k < (long) i + n; k++) {
            if (k < 0 || k >= size) {
                return false;
            }
        }
        return n >= 0 && i >= 0 && i <= size;
    }

    private static void copy(int sort, int a, int i, int b, int j, int n) {
        GetsOutFirst x = new GetsOutFirst();
        int[] source = numbersFrom(11, a);
        int[] goal = numbersFrom(55, b);
        fill(x, 0, sort, source);
        fill(x, 2, sort, goal);
        boolean right = inside(a, i, n) && inside(b, j, n);
        String what = "27: copy(0, " + i + ", 2, " + j + ", " + n + ") of " + a + " to " + b;
        Check.due(what, x.copy(0, i, 2, j, n), right ? n : -12);
        for (int k = 0; k < n && right; k++) {
            goal[j + k] = source[i + k];
        }
        itemsAre(what + ", to", x, 2, sort, goal);
        itemsAre(what + ", from", x, 0, sort, source);
    }

    private static void copiesOntoThemselves() {
        for (int size = 1; size <= 6; size++) {
            for (int i = 0; i <= size; i++) {
                for (int j = 0; j <= size; j++) {
                    for (int n = 0; n <= size + 1; n++) {
                        int sort = (i + j + n) % 3;
                        GetsOutFirst x = new GetsOutFirst();
                        int[] was = numbersFrom(30, size);
                        int[] then = was.clone();
                        fill(x, 1, sort, was);
                        boolean right = inside(size, i, n) && inside(size, j, n);
                        String what = "27: copy(1, " + i + ", 1, " + j + ", " + n + ") of " + size;
                        Check.due(what, x.copy(1, i, 1, j, n), right ? n : -12);
                        for (int k = 0; k < n && right; k++) {
                            then[j + k] = was[i + k];
                        }
                        itemsAre(what, x, 1, sort, then);
                    }
                }
            }
        }
    }

    private static void copiesOf40() {
        GetsOutFirst x = new GetsOutFirst();
        int[] was = numbersFrom(3, 40);
        fill(x, 0, 0, was);
        x.sheet(1, 0, 40);
        Check.due("27: all 40", x.copy(0, 0, 1, 0, 40), 40);
        Check.due("27: 41", x.copy(0, 0, 1, 0, 41), -12);
        Check.due("27: 40 from the second on", x.copy(0, 1, 1, 0, 40), -12);
        Check.due("27: 40 to the second", x.copy(0, 0, 1, 1, 40), -12);
        Check.due("27: none behind the last", x.copy(0, 40, 1, 40, 0), 0);
        Check.due("27: the last", x.copy(0, 39, 0, 0, 1), 1);
        Check.due("27: the last of the other", x.copy(1, 0, 1, 39, 1), 1);
        Check.due("27: 39 forward", x.copy(1, 0, 1, 1, 39), 39);
        Check.due("27: the first", item(x, 0, 0, 0), 42);
        Check.due("27: moved up", item(x, 1, 0, 39), 41);
        Check.due("27: moved up, the first", item(x, 1, 0, 1), 3);
    }

    private static void farCopies() {
        int[] far = {MIN, MIN + 1, -41, -40, -11, 11, 40, 41, MAX - 10, MAX - 1, MAX};
        State s = State.busy();
        for (int v : far) {
            s.refuses(-12, "copy", 0, v, 0, 0, 1);
            s.refuses(-12, "copy", 0, 0, 0, v, 1);
            s.refuses(-12, "copy", 0, 0, 0, 0, v);
            s.refuses(-12, "copy", 0, 1, 0, 0, v);
            s.refuses(-12, "copy", 0, v, 0, v, v);
            s.refuses(-12, "copy", 0, v, 0, 0, 0);
            s.refuses(-12, "copy", 0, 0, 0, v, 0);
            for (int w : far) {
                s.answers(-12, "copy", 0, v, 0, 0, w);
                s.answers(-12, "copy", 0, 0, 0, v, w);
            }
        }
    }

    private static void copyRefusesInOrder() {
        State s = State.busy();
        // SHEET 3 is missing; 0, 1 and 2 are of unlike sorts and of 10
        s.refuses(BAD, "copy", 4, 0, 3, 0, 1);
        s.refuses(BAD, "copy", 3, 0, 4, 0, 1);
        s.refuses(BAD, "copy", 3, -1, -1, -1, -1);
        s.refuses(BAD, "copy", -1, -1, 3, -1, -1);
        for (int n : new int[] {MIN, -1, 0, 1, 11, MAX}) {
            s.refuses(-11, "copy", 3, 0, 0, 0, n);
            s.refuses(-11, "copy", 0, 0, 3, 0, n);
            s.refuses(-11, "copy", 3, 0, 3, 0, n);
            s.refuses(-13, "copy", 0, 0, 1, 0, n);
            s.refuses(-13, "copy", 1, 0, 2, 0, n);
            s.refuses(-13, "copy", 2, -1, 0, -1, n);
        }
        s.refuses(-11, "copy", 3, -1, 0, 0, 1);
        s.refuses(-11, "copy", 0, -1, 3, 11, 1);
        s.refuses(-12, "copy", 2, 0, 2, 1, 10);
        s.refuses(-12, "copy", 2, 1, 2, 0, 10);
        s.refuses(-12, "copy", 2, 0, 2, 0, -1);
        s.answers(10, "copy", 2, 0, 2, 0, 10);
    }

    private static void aRefusedCopyChangesNothing() {
        // what could be copied ere the outside is met is not
        GetsOutFirst x = new GetsOutFirst();
        fill(x, 0, 2, 21, 22, 23);
        fill(x, 1, 2, 31, 32);
        Check.due("27: the other one is too short", x.copy(0, 0, 1, 0, 3), -12);
        itemsAre("27: as it was", x, 1, 2, 31, 32);
        Check.due("27: the one is too short", x.copy(1, 1, 0, 0, 2), -12);
        itemsAre("27: as it was too", x, 0, 2, 21, 22, 23);
    }

    private static final int[] FIVE = {0, 11, 90, 1, 22, 91, 2, 33, 92, 3, 44, 93, 4, 55, 94};

    private static void ridersFrom0To5() {
        for (int n = 0; n <= 5; n++) {
            for (int first = 0; first + n <= 5; first++) {
                GetsOutFirst x = new GetsOutFirst();
                fill(x, 0, 1, FIVE);
                Check.due("28: " + n + " from " + first, x.riders(0, 1, 3 * first, n), n);
                Check.due("28: RIDERS", x.count(0), n);
                for (int r = 0; r < n; r++) {
                    Check.due("28: KIND of " + r, x.told(r, 0), first + r);
                    Check.due("28: NUMBER of " + r, x.told(r, 1), first + r + 1);
                    Check.due("28: SIZE of " + r, x.told(r, 2), first + r + 1);
                    Check.due("28: PLACE of " + r, x.told(r, 4), first + r);
                    Check.due("28: CHANCE of " + r, x.told(r, 5), 100);
                }
            }
        }
        State s = filled(new State("five in a sheet"), 0, 1, FIVE);
        for (int n : new int[] {MIN, -2, -1, 6, 7, MAX}) {
            s.refuses(BAD, "riders", 0, 1, 0, n);
            s.refuses(BAD, "riders", 0, 1, 99, n);
        }
        s.refuses(0, "riders", 0, 1, 0, 0);
    }

    private static void ridersToTheLastItem() {
        for (int size = 0; size <= 16; size++) {
            for (int from = 0; from <= size + 1; from++) {
                for (int n = 1; n <= 5; n++) {
                    GetsOutFirst x = new GetsOutFirst();
                    x.sheet(0, 2, size);
                    for (int i = 0; i < size - from; i++) {
                        int[] three = {0, 7, 90 + i / 3};
                        x.cell(0, from + i, three[i % 3]);
                    }
                    int whole = Math.min(n, Math.max(0, size - from) / 3);
                    String what = "28: " + n + " from " + from + " of " + size;
                    Check.due(what, x.riders(0, 2, from, n), whole == n ? n : -12);
                    Check.due(what + ": what stood ahead came", x.count(0), whole);
                }
            }
        }
    }

    private static void ridersOutside() {
        State s = filled(new State("five in a sheet"), 0, 1, FIVE);
        for (int from : new int[] {MIN, MIN + 1, -15, -3, -2, -1, 13, 14, 15, 16, 40, 41, MAX - 14, MAX - 3, MAX - 2, MAX - 1, MAX}) {
            for (int n : new int[] {1, 2, 5}) {
                s.refuses(-12, "riders", 0, 1, from, n);
            }
        }
        State none = new State("a sheet of none").with("sheet", 0, 1, 0);
        none.refuses(-12, "riders", 0, 1, 0, 1);
        none.refuses(0, "riders", 0, 1, 0, 0);
        State two = new State("a sheet of two").with("sheet", 0, 1, 2);
        two.refuses(-12, "riders", 0, 1, 0, 1);
        // a sheet's old items are outside too
        GetsOutFirst x = new GetsOutFirst();
        fill(x, 0, 1, FIVE);
        x.sheet(0, 1, 5);
        x.cell(0, 2, 90);
        Check.due("28: just one stands there", x.riders(0, 1, 0, 2), -12);
        Check.due("28: it came", x.count(0), 1);
    }

    private static void ridersLeftOut() {
        int[][] threes = {{-1, 0, 94}, {6, 0, 94}, {0, -1, 94}, {0, 100, 94}, {0, 0, -1}, {0, 0, 0}, {0, 0, 96}, {0, 0, 900},
            {0, 0, 90}, {0, 0, 893}, {MIN, MIN, MIN}, {MAX, MAX, MAX}};
        for (int[] three : threes) {
            for (int at = 0; at < 3; at++) {
                GetsOutFirst x = new GetsOutFirst();
                x.rider(0, 0, 90);
                x.rider(0, 0, 893);
                int[] items = new int[9];
                for (int k = 0, right = 0; k < 3; k++) {
                    int[] come = k == at ? three : new int[] {5, 17, 91 + right++};
                    System.arraycopy(come, 0, items, 3 * k, 3);
                }
                fill(x, 2, 2, items);
                String what = "28: " + three[0] + ", " + three[1] + ", " + three[2] + " as " + at;
                Check.due(what, x.riders(2, 2, 0, 3), 2);
                Check.due(what + ": RIDERS", x.count(0), 4);
                Check.due(what + ": one", x.told(2, 4), 1);
                Check.due(what + ": another one", x.told(3, 4), 2);
                Check.due(what + ": none more", x.told(4, 4), BAD);
            }
        }
        GetsOutFirst x = new GetsOutFirst();
        fill(x, 0, 2, 0, 0, 90, 0, 0, 90, 0, 0, 90, 0, 0, 90, 0, 0, 90);
        Check.due("28: one of five on one PLACE", x.riders(0, 2, 0, 5), 1);
        Check.due("28: none of five then", x.riders(0, 2, 0, 5), 0);
        fill(x, 0, 2, 9, 9, 9, 9, 9, 9);
        Check.due("28: all are left out", x.riders(0, 2, 0, 2), 0);
        Check.due("28: all are left out, and outside", x.riders(0, 2, 0, 3), -12);
        Check.due("28: nobody came", x.count(0), 1);
    }

    private static void ridersOfAFullLift() {
        State s = filled(State.busy(), 3, 1, FIVE);
        s.refuses(0, "riders", 3, 1, 0, 5);
        s.refuses(0, "riders", 3, 1, 12, 1);
        s.refuses(-12, "riders", 3, 1, 3, 5);
        for (int n = 0; n <= 5; n++) {
            GetsOutFirst x = new GetsOutFirst();
            for (int r = 0; r < n; r++) {
                x.rider(0, 0, 890 + r);
            }
            fill(x, 3, 1, 0, 0, 10, 0, 0, 120, 0, 0, 230, 0, 0, 340, 0, 0, 450);
            Check.due("28: behind " + n, x.riders(3, 1, 0, 5), 5 - n);
            Check.due("28: the lift is full", x.count(0), 5);
            Check.due("28: none more", x.riders(3, 1, 0, 5), 0);
            Check.due("28: none more, and outside", x.riders(3, 1, 1, 5), -12);
        }
    }

    private static void ridersRefuseInOrder() {
        State s = filled(State.two(), 0, 1, FIVE);
        for (int n : NO_RIDERS) {
            if (n != 5) {
                s.refuses(BAD, "riders", 0, 1, 0, n);
                s.refuses(BAD, "riders", 0, 0, 0, n);
                s.refuses(BAD, "riders", 1, 0, 0, n);
                s.refuses(BAD, "riders", 0, 1, -1, n);
            }
        }
        for (int sort : new int[] {MIN, -1, 3, MAX}) {
            s.refuses(BAD, "riders", 0, sort, 0, 1);
            s.refuses(BAD, "riders", 1, sort, 0, 1);
            s.refuses(BAD, "riders", 0, sort, -1, 1);
        }
        for (int from : new int[] {MIN, -1, 0, 15, MAX}) {
            for (int n = 0; n <= 5; n++) {
                s.refuses(-13, "riders", 0, 0, from, n);
                s.refuses(-13, "riders", 0, 2, from, n);
                s.answers(-11, "riders", 1, 0, from, n);
                s.answers(-11, "riders", 1, 1, from, n);
                s.answers(-11, "riders", 1, 2, from, n);
            }
        }
        s.refuses(-11, "riders", 2, 1, 0, 1);
        s.with("sheet", 0, -1, 0).refuses(-11, "riders", 0, 1, 0, 1);
    }

    private static void ridersByNarrowSheets() {
        for (int sort = 0; sort < 3; sort++) {
            GetsOutFirst x = new GetsOutFirst();
            fill(x, 0, sort, 256 + 5, 65536 + 99, 125);
            int due = sort == 0 ? 1 : 0;
            Check.due("28: KIND 261 in sort " + sort, x.riders(0, sort, 0, 1), due);
            fill(x, 0, sort, 65536 + 5, 65536 + 99, 65536 + 84);
            due = sort < 2 ? 1 : 0;
            Check.due("28: KIND 65541 in sort " + sort, x.riders(0, sort, 0, 1), due);
            fill(x, 0, sort, 5, 99, 895);
            // 895 is 127 in a byte, and 7 is no PLACE
            Check.due("28: way 895 in sort " + sort, x.riders(0, sort, 0, 1), sort == 0 ? 0 : 1);
            fill(x, 0, sort, 0, 0, 128, 0, 0, 166, 0, 0, 32768, 0, 0, 65535);
            Check.due("28: ways below 0 or too great in sort " + sort, x.riders(0, sort, 0, 4), 0);
        }
    }

    private static void refusedRidersChangeNothing() {
        State s = filled(State.two(), 0, 1, FIVE);
        s.refuses(BAD, "riders", 0, 1, 0, 6);
        s.refuses(-13, "riders", 0, 2, 0, 5);
        s.refuses(-11, "riders", 1, 2, 0, 5);
        s.refuses(-12, "riders", 0, 1, -3, 5);
        s.refuses(0, "riders", 0, 1, 0, 1);
        s.refuses(0, "riders", 0, 1, 0, 0);
    }

    private static void takenRefusesInOrder() {
        for (int k : new int[] {MIN, -2, -1, 6, 7, MAX}) {
            for (int r = 0; r < 5; r++) {
                State.busy().answers(BAD, "taken", r, k);
            }
            State.busy().refuses(BAD, "taken", 0, k);
            State.busy().refuses(BAD, "taken", 5, k);
            State.busy().refuses(BAD, "taken", -1, k);
            State.empty().refuses(BAD, "taken", 0, k);
        }
        for (int r : NO_RIDERS) {
            for (int k = 0; k <= 5; k++) {
                State.busy().answers(-11, "taken", r, k);
                State.empty().answers(-11, "taken", r, k);
            }
            State.busy().refuses(-11, "taken", r, 0);
        }
        State.two().answers(-11, "taken", 2, 0);
        State.two().answers(0, "taken", 1, 0);
        State.two().refuses(-13, "taken", 1, 1);
        State.two().with("image").with("rider", 1, 90, 91).with("back").answers(-11, "taken", 2, 1);
    }

    private static void takenByEachKind() {
        // whom each KIND is under, itself too
        String[] under = {"0", "10", "20", "310", "420", "510"};
        for (int kind = 0; kind < 6; kind++) {
            for (int k = 0; k < 6; k++) {
                boolean is = under[kind].indexOf('0' + k) >= 0;
                new State("a rider of KIND " + kind).with("rider", kind, 60 + kind, 90).answers(is ? 6 : -13, "taken", 0, k);
            }
        }
    }

    private static void takenTellsTheNumber() {
        for (int number = 0; number <= 9; number++) {
            State s = State.two().with("rider", 3, 10 * number + 9 - number, 91);
            s.answers(number, "taken", 2, 0);
            s.answers(number, "taken", 2, 1);
            s.answers(number, "taken", 2, 3);
            s.with("set", 1, 2, 9 - number).answers(9 - number, "taken", 2, 1);
        }
    }
}
