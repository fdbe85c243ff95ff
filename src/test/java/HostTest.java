/** Promises 25 to 29: the host's sheets, riders by a sheet, and kinds. */
public final class HostTest {
    public static void main(String[] args) {
        sheetsCome();
        sheetRefuses();
        cellsNarrow();
        cellRefuses();
        copyMoves();
        copyRefuses();
        ridersCome();
        ridersAreLeftOut();
        ridersTillOutside();
        ridersRefuse();
        ridersBySorts();
        takenByKinds();
        takenRefuses();
        Check.end("HostTest");
    }

    /** An item is seen by whom it brings: as KIND, which must be 0 .. 5. */
    private static int kindAt(GetsOutFirst x, int sheet, int sort, int i) {
        x.image();
        int came = x.riders(sheet, sort, i, 1);
        int kind = came == 1 ? x.told(x.count(0) - 1, 0) : -1;
        x.back();
        return kind;
    }

    private static void sheetsCome() {
        GetsOutFirst x = new GetsOutFirst();
        for (int sheet = 0; sheet < 4; sheet++) {
            Check.due("25: sheet", x.sheet(sheet, sheet % 3, 10 * sheet), 1);
            Check.due("25: its size", x.cell(sheet, 10 * sheet, 0), -12);
        }
        Check.due("25: 40", x.sheet(0, 0, 40), 1);
        Check.due("25: the last", x.cell(0, 39, 0), 1);
        x.cell(0, 0, 1);
        x.sheet(0, 0, 40);
        x.cell(0, 2, 10);
        Check.due("25: all 0", kindAt(x, 0, 0, 0), 0);
        Check.due("25: missing", x.sheet(0, -1, -77), 1);
        Check.due("25: is missing", x.cell(0, 0, 0), -11);
        Check.due("25: missing again", x.sheet(0, -1, 99), 1);
        x.sheet(0, 2, 3);
        x.cell(0, 0, 1);
        x.sheet(0, -1, 0);
        x.sheet(0, 2, 3);
        x.cell(0, 2, 10);
        Check.due("25: all 0 after it was missing", kindAt(x, 0, 2, 0), 0);
    }

    private static void sheetRefuses() {
        GetsOutFirst x = new GetsOutFirst();
        x.sheet(1, 1, 2);
        int[][] bad = {{-1, 0, 0}, {4, 0, 0}, {1, -2, 0}, {1, 3, 0}, {1, 0, 41}, {1, 3, -1}, {4, 0, -1}, {-1, -1, 0},
            {Integer.MAX_VALUE, 0, 0}, {1, Integer.MIN_VALUE, 0}, {1, 0, Integer.MAX_VALUE}};
        for (int[] b : bad) {
            Check.due("25: sheet(" + b[0] + ", " + b[1] + ", " + b[2] + ")", x.sheet(b[0], b[1], b[2]), GetsOutFirst.BAD);
        }
        Check.due("25: below 0", x.sheet(1, 0, -1), -14);
        Check.due("25: far below 0", x.sheet(1, 0, Integer.MIN_VALUE), -14);
        Check.due("25: refusals change nothing", x.riders(1, 1, 0, 0), 0);
        Check.due("25: nor the size", x.cell(1, 2, 0), -12);
    }

    private static void cellsNarrow() {
        GetsOutFirst x = new GetsOutFirst();
        int[] values = {3, 259, 65539, -253, 131, 32771, 3 - 65536};
        int[][] due = {{3, 3, 3, 3, -1, 3, 3}, {3, -1, 3, -1, -1, -1, 3}, {3, -1, -1, -1, -1, -1, -1}};
        for (int sort = 0; sort < 3; sort++) {
            x.sheet(0, sort, 3);
            x.cell(0, 2, 10);
            for (int i = 0; i < values.length; i++) {
                Check.due("26: cell", x.cell(0, 0, values[i]), 1);
                Check.due("26: " + values[i] + " in sort " + sort, kindAt(x, 0, sort, 0), due[sort][i]);
            }
        }
        x.sheet(0, 0, 3);
        x.cell(0, 2, 134);
        Check.due("26: a byte is no more than 127", x.riders(0, 0, 0, 1), 0);
        x.cell(0, 2, 127);
        Check.due("26: 127 is none", x.riders(0, 0, 0, 1), 0);
        x.cell(0, 2, 125);
        Check.due("26: 125 is a way", x.riders(0, 0, 0, 1), 1);
    }

    private static void cellRefuses() {
        GetsOutFirst x = new GetsOutFirst();
        x.sheet(1, 2, 3);
        x.sheet(2, 0, 0);
        Check.due("26: no such SHEET", x.cell(-1, 0, 0), GetsOutFirst.BAD);
        Check.due("26: no such SHEET", x.cell(4, -1, 0), GetsOutFirst.BAD);
        Check.due("26: missing", x.cell(0, -1, 0), -11);
        for (int i : new int[] {-1, 3, 39, 40, Integer.MAX_VALUE, Integer.MIN_VALUE}) {
            Check.due("26: cell(1, " + i + ")", x.cell(1, i, 0), -12);
        }
        Check.due("26: of none", x.cell(2, 0, 0), -12);
    }

    private static GetsOutFirst withNumbers() {
        GetsOutFirst x = new GetsOutFirst();
        x.sheet(0, 1, 8);
        for (int i = 0; i < 6; i++) {
            x.cell(0, i, i);
        }
        x.sheet(1, 1, 4);
        x.sheet(2, 0, 8);
        return x;
    }

    /** Items 0 .. 5 of a sheet of shorts, all of them kinds. */
    private static void kindsAre(String what, GetsOutFirst x, int sheet, int... kinds) {
        for (int i = 0; i < kinds.length; i++) {
            x.sheet(3, 1, 3);
            x.cell(3, 2, 10);
            x.copy(sheet, i, 3, 0, 1);
            Check.due("27: " + what + ", item " + i, kindAt(x, 3, 1, 0), kinds[i]);
        }
    }

    private static void copyMoves() {
        GetsOutFirst x = withNumbers();
        Check.due("27: copy", x.copy(0, 2, 1, 1, 3), 3);
        kindsAre("to another", x, 1, 0, 2, 3, 4);
        Check.due("27: forward", x.copy(0, 0, 0, 1, 4), 4);
        kindsAre("as they were", x, 0, 0, 0, 1, 2, 3, 5);
        x = withNumbers();
        Check.due("27: backward", x.copy(0, 2, 0, 0, 4), 4);
        kindsAre("as they were, backward", x, 0, 2, 3, 4, 5, 4, 5);
        Check.due("27: none", x.copy(0, 8, 1, 4, 0), 0);
        Check.due("27: all", x.copy(0, 0, 0, 0, 8), 8);
        Check.due("27: to the end", x.copy(1, 0, 0, 4, 4), 4);
    }

    private static void copyRefuses() {
        GetsOutFirst x = withNumbers();
        Check.due("27: no such SHEET", x.copy(-1, 0, 3, 0, 0), GetsOutFirst.BAD);
        Check.due("27: no such other", x.copy(3, 0, 4, 0, 0), GetsOutFirst.BAD);
        Check.due("27: missing", x.copy(3, 0, 0, 0, -1), -11);
        Check.due("27: the other is missing", x.copy(0, -1, 3, 0, 0), -11);
        Check.due("27: unlike sorts", x.copy(0, 0, 2, 0, 0), -13);
        Check.due("27: unlike sorts ahead of outside", x.copy(0, -1, 2, 0, 99), -13);
        int most = Integer.MAX_VALUE;
        int least = Integer.MIN_VALUE;
        int[][] outside = {{-1, 0, 1}, {0, -1, 1}, {0, 0, -1}, {6, 0, 3}, {0, 2, 3}, {9, 0, 0}, {0, 5, 0}, {0, 0, 5},
            {-1, 0, 0}, {most, 0, 1}, {0, most, 1}, {1, 1, most}, {most, most, most}, {least, 0, 1}, {0, least, 1},
            {0, 0, least}, {1, 1, least}};
        for (int[] o : outside) {
            Check.due("27: copy(0, " + o[0] + ", 1, " + o[1] + ", " + o[2] + ")", x.copy(0, o[0], 1, o[1], o[2]), -12);
        }
        kindsAre("refusals change nothing", x, 1, 0, 0, 0, 0);
    }

    private static void fill(GetsOutFirst x, int sheet, int sort, int... items) {
        x.sheet(sheet, sort, items.length);
        for (int i = 0; i < items.length; i++) {
            x.cell(sheet, i, items[i]);
        }
    }

    private static void ridersCome() {
        GetsOutFirst x = new GetsOutFirst();
        fill(x, 0, 2, 77, 1, 23, 90, 4, 56, 381);
        Check.due("28: two", x.riders(0, 2, 1, 2), 2);
        int[][] due = {{1, 2, 3, 9, 0, 100, 0}, {4, 5, 6, 8, 1, 100, 3}};
        for (int r = 0; r < due.length; r++) {
            for (int what = 0; what < due[r].length; what++) {
                Check.due("28: told(" + r + ", " + what + ")", x.told(r, what), due[r][what]);
            }
        }
        Check.due("28: none asked", x.riders(0, 2, 0, 0), 0);
        Check.due("28: none asked, wherever", x.riders(0, 2, 99, 0), 0);
    }

    private static void ridersAreLeftOut() {
        GetsOutFirst x = new GetsOutFirst();
        fill(x, 0, 2, 0, 0, 90, 0, 0, 120, 6, 0, 91, 0, 0, 92, -1, 0, 93);
        Check.due("28: two come", x.riders(0, 2, 0, 5), 2);
        Check.due("28: the other one", x.told(1, 4), 2);
        fill(x, 0, 2, 0, 0, 91, 0, 0, 93, 0, 0, 94, 0, 0, 95);
        Check.due("28: till it is full", x.riders(0, 2, 0, 4), 3);
        Check.due("28: five", x.count(0), 5);
        Check.due("28: none", x.riders(0, 2, 0, 4), 0);
    }

    private static void ridersTillOutside() {
        GetsOutFirst x = new GetsOutFirst();
        fill(x, 0, 2, 0, 0, 90, 0, 0, 91, 0, 0);
        Check.due("28: outside", x.riders(0, 2, 0, 3), -12);
        Check.due("28: what stood ahead came", x.count(0), 2);
        int[] outside = {-1, -3, 6, 7, 8, 9, Integer.MAX_VALUE, Integer.MIN_VALUE, Integer.MAX_VALUE - 2};
        for (int from : outside) {
            Check.due("28: from " + from, x.riders(0, 2, from, 2), -12);
        }
        Check.due("28: nobody came", x.count(0), 2);
        x.sheet(1, 0, 0);
        Check.due("28: of no item", x.riders(1, 0, 0, 1), -12);
    }

    private static void ridersRefuse() {
        GetsOutFirst x = new GetsOutFirst();
        fill(x, 0, 1, 0, 0, 90);
        int[][] bad = {{-1, 1, 0, 1}, {4, 1, 0, 1}, {0, -1, 0, 1}, {0, 3, 0, 1}, {0, 1, 0, -1}, {0, 1, 0, 6},
            {1, -1, 0, 1}, {1, 0, 0, 6}, {0, 2, 0, 6}};
        for (int[] b : bad) {
            Check.due("28: riders(" + b[0] + ", " + b[1] + ", " + b[2] + ", " + b[3] + ")",
                x.riders(b[0], b[1], b[2], b[3]), GetsOutFirst.BAD);
        }
        Check.due("28: of another sort", x.riders(0, 0, 0, 1), -13);
        Check.due("28: of another sort, ahead of outside", x.riders(0, 2, 9, 1), -13);
        for (int sort = 0; sort < 3; sort++) {
            Check.due("28: missing", x.riders(1, sort, 9, 1), -11);
        }
        Check.due("28: nobody came", x.count(0), 0);
    }

    private static void ridersBySorts() {
        for (int sort = 0; sort < 3; sort++) {
            GetsOutFirst x = new GetsOutFirst();
            fill(x, 0, sort, 2, 34, 95);
            Check.due("28: sort " + sort, x.riders(0, sort, 0, 1), 1);
            Check.due("28: PLACE", x.told(0, 4), 5);
        }
    }

    private static void takenByKinds() {
        int[][] due = {{1, 0, 0, 0, 0, 0}, {1, 1, 0, 0, 0, 0}, {1, 0, 1, 0, 0, 0}, {1, 1, 0, 1, 0, 0}, {1, 0, 1, 0, 1, 0},
            {1, 1, 0, 0, 0, 1}};
        for (int kind = 0; kind < 6; kind++) {
            GetsOutFirst x = new GetsOutFirst();
            x.rider(0, 0, 91);
            x.rider(kind, 10 * kind + 7, 90);
            for (int k = 0; k < 6; k++) {
                Check.due("29: kind " + kind + " for " + k, x.taken(1, k), due[kind][k] == 1 ? kind : -13);
            }
        }
    }

    private static void takenRefuses() {
        GetsOutFirst x = new GetsOutFirst();
        x.rider(0, 0, 90);
        for (int k : new int[] {-1, 6, Integer.MAX_VALUE, Integer.MIN_VALUE}) {
            Check.due("29: taken(0, " + k + ")", x.taken(0, k), GetsOutFirst.BAD);
            Check.due("29: taken(9, " + k + ")", x.taken(9, k), GetsOutFirst.BAD);
        }
        for (int rider : new int[] {-1, 1, 5, Integer.MAX_VALUE, Integer.MIN_VALUE}) {
            Check.due("29: taken(" + rider + ", 0)", x.taken(rider, 0), -11);
        }
    }
}
