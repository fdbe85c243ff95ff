import java.util.ArrayList;
import java.util.List;

/** The bounds of promises 6 to 8, and of what texts are worth, each sentence of the document by itself. */
public final class TextsBoundsTest {
    private static final int BAD = GetsOutFirst.BAD, FULL = GetsOutFirst.FULL;
    private static final int MIN = Integer.MIN_VALUE, MAX = Integer.MAX_VALUE;
    /** The least int, as a text, and the greatest. */
    private static final String LEAST = "8192*8192*32", GREATEST = "(8192*8192*32-1)";

    public static void main(String[] args) {
        bytesAre0To255();
        theTapeHas160Bytes();
        aFullTapeIsReadAsItStands();
        faultsAtTheTapesEnd();
        anEmptyTapeIsAFault();
        textsEndTooEarly();
        tokensAreAsLongAsCanBe();
        numbersOf4DigitsAtMost();
        blanksAre32And10();
        wordsThatAreNone();
        fiveOpenAtATime();
        openTillTheyEnd();
        sixTexts();
        fullAheadOfAll();
        whatAFaultLeaves();
        forceTakesTheTextsThatAre();
        anEWraps();
        whatIsNot0IsTrue();
        stepsLateAndMovesAre0To99();
        text0IsFiveOneThree();
        namesAtTheirBounds();
        Check.end("TextsBoundsTest");
    }

    private static long read(String text) {
        GetsOutFirst x = new GetsOutFirst();
        Check.feed(x, text);
        return x.text();
    }

    private static String shortened(String text) {
        return text.length() > 60 ? text.substring(0, 60) + ".." : text;
    }

    private static void right(String text) {
        Check.due("7: '" + shortened(text) + "'", read(text), 1);
    }

    private static void fault(String text, int place) {
        Check.due("7: '" + shortened(text) + "'", read(text), -100 - place);
    }

    /** The fault's place is told by a ^ ahead of it. */
    private static void faultAt(String marked) {
        fault(marked.replace("^", ""), marked.indexOf('^'));
    }

    private static void bytesAre0To255() {
        GetsOutFirst x = new GetsOutFirst();
        int many = 0;
        for (int letter = 0; letter <= 255; letter++) {
            if (many == 160) {
                x.text();
                many = 0;
            }
            many++;
            Check.due("6: feed(" + letter + ")", x.feed(letter), many);
        }
        for (int letter : new int[] {MIN, -256, -128, -1, 256, 257, 371, 65536 + 115, MAX}) {
            State.empty().refuses(BAD, "feed", letter);
            State.busy().refuses(BAD, "feed", letter);
            State.fullTape().refuses(BAD, "feed", letter);
        }
    }

    private static void theTapeHas160Bytes() {
        GetsOutFirst x = new GetsOutFirst();
        for (int round = 0; round < 2; round++) {
            for (int n = 1; n <= 160; n++) {
                Check.due("6: the byte " + n, x.feed(255), n);
            }
            Check.due("6: one more", x.feed(255), FULL);
            Check.due("6: bytes", x.count(3), 160);
            Check.due("7: no text", x.text(), -100);
            Check.due("6: bytes then", x.count(3), 0);
        }
        for (int letter : new int[] {0, 32, 59, 115, 255}) {
            State.fullTape().refuses(FULL, "feed", letter);
        }
        State s = new State("159 bytes").fed(State.LONGEST.substring(0, 159));
        s.answers(160, "feed", 59);
        s.refuses(BAD, "feed", 256);
    }

    private static void aFullTapeIsReadAsItStands() {
        Check.due("7: the longest has", State.LONGEST.length(), 160);
        right(State.LONGEST);
        State s = State.fullTape().with("feed", 'x').with("feed", ' ');
        s.answers(1, "text");
        String fault = "steps 0" + "+1".repeat(68) + ";late 1;moves 3;;";
        Check.due("7: a long sum has", fault.length(), 160);
        fault(fault, 159);
        String longest = "steps 10" + "+1".repeat(68) + ";late 1;moves 3;";
        Check.due("7: the longest sum has", longest.length(), 160);
        GetsOutFirst x = new GetsOutFirst();
        Check.rule(x, longest);
        x.rider(0, 0, 90);
        x.rider(0, 0, 94);
        Check.due("7: the longest sum", x.ride(0), 78);
    }

    private static void faultsAtTheTapesEnd() {
        String blanks = " ".repeat(160);
        fault("steps 5;late 1;moves 3" + blanks.substring(0, 138), 160);
        fault("steps 5;late 1;moves 3;" + blanks.substring(0, 136) + "x", 159);
        fault("steps 5;late 1;moves 3;" + blanks.substring(0, 136) + ";", 159);
        fault("steps 5;late 1;moves 3;" + blanks.substring(0, 133) + "late", 156);
        right("steps 5;late 1;moves 3;" + blanks.substring(0, 137));
        fault(blanks, 160);
        fault("s".repeat(160), 0);
        fault("steps " + "9".repeat(154), 6);
        fault("steps " + "(".repeat(154), 11);
        fault("steps " + "-".repeat(154), 11);
        fault("steps " + "not ".repeat(38), 26);
        fault("steps 1" + "+".repeat(153), 8);
    }

    private static void anEmptyTapeIsAFault() {
        for (State s : new State[] {State.empty(), State.two()}) {
            s.answers(-100, "text");
            s.with("text").answers(-100, "text");
            s.answers(0, "count", 3);
            s.answers(1, "count", 2);
        }
    }

    /** The text's size is told, its last blanks too. */
    private static void textsEndTooEarly() {
        String text = "steps (1+size)*2<3 and not - 5 or row;late 1 ;moves inside ;";
        for (int n = 0; n < text.length(); n++) {
            String cut = text.substring(0, n);
            if (n > 0 && Character.isLetterOrDigit(text.charAt(n - 1)) && Character.isLetter(text.charAt(n))) {
                continue;
            }
            fault(cut, n);
            fault(cut + " \n ", n + 3);
        }
        right(text);
    }

    private static void tokensAreAsLongAsCanBe() {
        right("steps5;late1;moves3;");
        right("steps not(1)or not(2)and 3;late 1;moves 1;");
        right("steps 1or 2and not 3;late rider;moves 4or row;");
        fault("steps5late1;moves3;", 6);
        fault("steps 4row;late 1;moves 1;", 7);
        fault("steps row4;late 1;moves 1;", 9);
        fault("steps notrow;late 1;moves 1;", 6);
        fault("steps not1row;late 1;moves 1;", 10);
        fault("steps 1 orrow;late 1;moves 1;", 8);
        fault("steps 1 andnot 1;late 1;moves 1;", 8);
        fault("stepssize;late 1;moves 1;", 0);
        fault("steps sizesize;late 1;moves 1;", 6);
        fault("steps 1==1;late 1;moves 1;", 8);
        fault("steps 1<=1;late 1;moves 1;", 8);
        fault("steps 1**1;late 1;moves 1;", 8);
        right("steps 1--1;late 1- -1;moves 1---1;");
    }

    private static void numbersOf4DigitsAtMost() {
        for (String number : new String[] {"0", "9", "00", "10", "999", "000", "1000", "9999", "0000", "0001"}) {
            right("steps " + number + ";late " + number + ";moves " + number + ";");
        }
        for (String number : new String[] {"00000", "00001", "10000", "99999", "000000", "2147483648", "4294967297"}) {
            fault("steps " + number + ";late 1;moves 1;", 6);
            fault("steps 1;late (" + number + ");moves 1;", 14);
            fault("steps 1;late 1;moves 1+" + number + ";", 23);
            fault("steps 1;late 1;moves " + number, 21);
            fault("steps 1 " + number + ";late 1;moves 1;", 8);
        }
        fault("steps 1234 5678;late 1;moves 1;", 11);
        GetsOutFirst x = new GetsOutFirst();
        Check.rule(x, "steps 9999-9998+0077;late 0;moves 0;");
        x.rider(0, 0, 90);
        x.rider(0, 0, 94);
        Check.due("7: numbers are worth what they tell", x.ride(0), 78);
    }

    private static void blanksAre32And10() {
        String[] tokens = {"steps", "(", "1", ")", "+", "row", ";", "late", "1", "<", "2", ";", "moves", "1", ";"};
        for (String blank : new String[] {" ", "\n", " \n", "\n\n \n"}) {
            right(blank + String.join(blank, tokens) + blank);
        }
        for (int i = 0; i <= tokens.length; i++) {
            for (char none : new char[] {0, 9, 11, 12, 13, 31, 33, 127, 160, 255}) {
                StringBuilder text = new StringBuilder();
                int place = 0;
                for (int k = 0; k < tokens.length; k++) {
                    if (k == i) {
                        place = text.length();
                        text.append(none);
                    }
                    text.append(tokens[k]).append(' ');
                }
                if (i == tokens.length) {
                    place = text.length();
                    text.append(none);
                }
                fault(text.toString(), place);
            }
        }
    }

    private static void wordsThatAreNone() {
        List<String> names = List.of("rider", "floor", "size", "row", "number", "inside");
        List<String> words = new ArrayList<>(names);
        words.addAll(List.of("steps", "late", "moves", "or", "and", "not"));
        for (String word : words) {
            for (String other : new String[] {word + "s", word.substring(1), word.substring(0, word.length() - 1), word + word,
                "a" + word, word.substring(0, 1) + word}) {
                fault("steps " + other + ";late 1;moves 1;", 6);
                fault("steps 1 " + other + " 1;late 1;moves 1;", 8);
                fault("steps 1;" + other + " 1;moves 1;", 8);
                fault("steps 1;late 1;moves 1;" + other, 23);
            }
            if (names.contains(word)) {
                right("steps " + word + ";late " + word + ";moves " + word + ";");
            } else if (!word.equals("not")) {
                fault("steps " + word + ";late 1;moves 1;", 6);
            }
            fault("steps 1;late 1;moves 1; " + word, 24);
        }
    }

    /** All rows of n of these signs that can stand one behind another ahead of a ONE. */
    private static List<String> openings(int n) {
        List<String> rows = new ArrayList<>();
        if (n == 0) {
            rows.add("");
            return rows;
        }
        for (String row : openings(n - 1)) {
            rows.add(row + "(");
            rows.add(row + "-");
            if (!row.endsWith("-")) {
                rows.add(row + "not ");
            }
        }
        return rows;
    }

    private static String closing(String opening) {
        return ")".repeat((int) opening.chars().filter(c -> c == '(').count());
    }

    private static void fiveOpenAtATime() {
        for (int n = 0; n <= 5; n++) {
            for (String row : openings(n)) {
                right("steps " + row + "1" + closing(row) + ";late 1;moves 1;");
                right("steps 1;late 1;moves " + row + "row" + closing(row) + ";");
            }
        }
        for (String row : openings(5)) {
            for (String sixth : new String[] {"(1)", "-1", "not 1"}) {
                fault("steps " + row + sixth + closing(row) + ";late 1;moves 1;", 6 + row.length());
                fault("steps 1;late " + row + sixth, 13 + row.length());
                fault("steps " + row + " " + sixth, 7 + row.length());
            }
            fault("steps " + row + "1" + closing(row) + ")", 7 + row.length() + closing(row).length());
            fault("steps " + row, 6 + row.length());
        }
    }

    /** What was closed is open no more; a - between two is none of them. */
    private static void openTillTheyEnd() {
        for (String row : openings(5)) {
            String one = row + "1" + closing(row);
            right("steps " + one + " and " + one + ";late " + one + " or " + one + ";moves " + one + ";");
            if (!row.contains("not")) {
                right("steps " + one + "-" + one + "*" + one + ";late " + one + "<" + one + ";moves 1;");
            }
            fault("steps " + one + " and " + row + "(1", 6 + one.length() + 5 + row.length());
        }
        for (String row : openings(4)) {
            String one = row + "1" + closing(row);
            right("steps -(1)-" + one + ";late 1;moves 1;", row.startsWith("not"));
            right("steps (" + one + ")-1-1-1-1-1-1-1;late 1;moves 1;");
            fault("steps (" + row + "1-1-1-1--1", 6 + 1 + row.length() + 8, row.endsWith("-"));
        }
        // a not holds till its NOT ends, behind < too
        faultAt("steps not not not not not 1<^-1");
        faultAt("steps not not not not not 1+1<^(1");
        right("steps not not not not 1<-1;late 1;moves 1;");
        right("steps not not not not not 1<1-1 and -1;late 1;moves 1;");
        faultAt("steps not not not not not 1<1 and not -(not -1) or -(not(-^(-1");
        // a - holds till its ONE ends, so not behind *
        right("steps -----1*-----1;late 1;moves 1;");
        faultAt("steps ((((-1*-^(1");
        right("steps ((((-1*-1))));late 1;moves 1;");
    }

    private static void right(String text, boolean unless) {
        if (!unless) {
            right(text);
        }
    }

    private static void fault(String text, int place, boolean unless) {
        if (!unless) {
            fault(text, place);
        }
    }

    private static void sixTexts() {
        GetsOutFirst x = new GetsOutFirst();
        for (int n = 1; n <= 5; n++) {
            Check.feed(x, "steps 1 1");
            Check.due("7: a fault takes no room", x.text(), -108);
            Check.due("7: texts", x.count(2), n);
            Check.feed(x, "steps 5;late 1;moves 3;");
            Check.due("7: text " + n, x.text(), n);
            Check.due("7: texts", x.count(2), n + 1);
        }
        Check.due("7: no more", x.text(), FULL);
    }

    private static void fullAheadOfAll() {
        State s = State.fullTexts();
        s.refuses(FULL, "text");
        s.answers(10, "count", 3);
        State right = State.fullTexts().fed("te 1;moves 1;");
        right.refuses(FULL, "text");
        right.with("text").answers(23, "count", 3);
        right.with("text").answers(24, "feed", 32);
        State wrong = State.fullTexts().fed("@");
        wrong.refuses(FULL, "text");
        State none = new State("full texts, no tape");
        for (int n = 1; n <= 5; n++) {
            none.read("steps 5;late 1;moves 3;");
        }
        none.refuses(FULL, "text");
        none.answers(0, "count", 3);
        none.fed("x".repeat(160));
        none.refuses(FULL, "text");
        none.refuses(FULL, "feed", 32);
        none.answers(160, "count", 3);
    }

    private static void whatAFaultLeaves() {
        String[] wrong = {"", " ", "@", "steps", "steps 9;late 9;moves 9", "steps 9;late 9;moves 9;;", "steps 9+;", "steps (((((9",
            "steps 99999;", "steps 9;late 9;moves 9; 9"};
        for (String text : wrong) {
            State s = State.two().with("force", 0).read(text);
            s.answers(0, "count", 3);
            s.answers(1, "count", 2);
            s.answers(0, "count", 4);
            s.answers(BAD, "force", 1);
            s.answers(10, "ride", 0);
            s.answers(1, "feed", 's');
            s.answers(-100, "text");
            s.fed("steps 7;late 0;moves 0;").answers(1, "text");
            s.with("text").with("force", 1).answers(14, "ride", 0);
        }
        // what of a text was read ahead of its fault is in none that follows
        State s = State.two().read("steps 1+2+3;late 4+5;moves 6+@").read("steps 8;late 9;moves 7;").with("force", 1);
        s.answers(16, "ride", 0);
        s.answers(7, "one", 0, 1);
    }

    private static void forceTakesTheTextsThatAre() {
        State s = State.two();
        for (int n = 1; n <= 6; n++) {
            for (int text : new int[] {MIN, -2, -1, n, n + 1, 6, 7, MAX}) {
                s.refuses(BAD, "force", text);
            }
            for (int text = 0; text < n; text++) {
                s.answers(0, "force", text);
                new State("forced " + text).with("rider", 0, 0, 90).answers(text == 0 ? 0 : BAD, "force", text);
            }
            s.read("steps " + n + ";late 1;moves 3;");
        }
        s = State.fullTexts();
        s.answers(3, "count", 4);
        s.answers(3, "force", 3);
        s.with("force", 5).answers(5, "force", 5);
        s.answers(5, "count", 4);
        s.answers(10, "ride", 0);
        s.with("force", 0).answers(0, "count", 4);
    }

    /** What steps tells of a plain rider 0, NUMBER 9, SIZE 0, on place 0, at floor 0. */
    private static long worth(String e) {
        GetsOutFirst x = new GetsOutFirst();
        Check.rule(x, "steps " + e + ";late 0;moves 0;");
        x.rider(0, 90, 90);
        x.rider(0, 0, 92);
        return x.ride(0);
    }

    private static void worthIs(String e, int due) {
        Check.due("7: " + e, worth(e), due);
    }

    private static void anEWraps() {
        worthIs(LEAST + "<0", 1);
        worthIs(GREATEST + "<0", 0);
        worthIs("0<" + GREATEST, 1);
        worthIs(GREATEST + "+1<0", 1);
        worthIs(GREATEST + "+1=" + LEAST, 1);
        worthIs(LEAST + "-1=" + GREATEST, 1);
        worthIs(LEAST + "<" + GREATEST, 1);
        worthIs(GREATEST + "<" + LEAST, 0);
        worthIs("-(" + LEAST + ")=" + LEAST, 1);
        worthIs(LEAST + "*-1=" + LEAST, 1);
        worthIs("0-" + LEAST + "=" + LEAST, 1);
        worthIs("-" + GREATEST + "-1=" + LEAST, 1);
        worthIs(LEAST + "*2", 0);
        worthIs(LEAST + "+" + LEAST, 0);
        worthIs(GREATEST + "*" + GREATEST, 1);
        worthIs(GREATEST + "+" + GREATEST + "=-2", 1);
        worthIs("9999*9999*9999", (int) (9999L * 9999 * 9999) < 0 ? 0 : 99);
        worthIs("9999*9999*9999=" + asText(9999 * 9999 * 9999), 1);
        worthIs("256*256*256*256*9999+17", 17);
        worthIs("2-" + LEAST + "-" + LEAST, 2);
        worthIs(LEAST + "=0", 0);
        worthIs(LEAST + "<" + LEAST, 0);
        worthIs(LEAST + "=" + LEAST, 1);
        worthIs(GREATEST + "<" + GREATEST, 0);
        worthIs(GREATEST + "=" + GREATEST, 1);
        worthIs(LEAST + "=" + GREATEST, 0);
        worthIs("0<0", 0);
        worthIs("0<1", 1);
        worthIs("1<" + LEAST, 0);
        worthIs(LEAST + "<-1", 1);
    }

    private static String asText(int v) {
        long left = Math.abs((long) v);
        String text = "(" + left / 100000000 + "*1000*1000*100+" + left / 10000 % 10000 + "*1000*10+" + left % 10000 + ")";
        return v < 0 ? "-" + text : text;
    }

    private static void whatIsNot0IsTrue() {
        String[] truths = {"1", "-1", "5", LEAST, GREATEST, "(1-2)", "256", "(1<2)"};
        String[] untruths = {"0", "-0", "(1-1)", LEAST + "*2", "256*256*256*256", "(2<1)", "not 1"};
        for (String t : truths) {
            worthIs("not (" + t + ")", 0);
            worthIs("not not (" + t + ")", 1);
            worthIs("7*(" + t + " or 0)", 7);
            worthIs("7*(0 or " + t + ")", 7);
            for (String u : truths) {
                worthIs("7*(" + t + " and " + u + ")", 7);
                worthIs("7*(" + t + " or " + u + ")", 7);
            }
            for (String u : untruths) {
                worthIs("7*(" + t + " and " + u + ")", 0);
                worthIs("7*(" + u + " and " + t + ")", 0);
                worthIs("7*(" + u + " or " + t + ")", 7);
            }
        }
        for (String u : untruths) {
            worthIs("7*(not (" + u + "))", 7);
            for (String v : untruths) {
                worthIs("7*(" + u + " or " + v + ")", 0);
                worthIs("7*(" + u + " and " + v + ")", 0);
            }
        }
        // what is not so is 0, not less
        for (String u : new String[] {"0 or 0", "0 and 0", "1 and 0", "0 and 1", "1<0", "1<1", "1=2", "not 1"}) {
            worthIs("20-(" + u + ")", 20);
            worthIs("(" + u + ")+20", 20);
            worthIs("(" + u + ")=0", 1);
        }
        for (String t : new String[] {"0 or 1", "-3 or 0", "5 or 5", "3 and 4", "0<1", "-1<0", "2=2", "not 0"}) {
            worthIs("20-(" + t + ")", 19);
            worthIs("(" + t + ")+20", 21);
            worthIs("(" + t + ")=1", 1);
        }
    }

    private static void stepsLateAndMovesAre0To99() {
        String[] texts = {LEAST, "-9999*9999", "-1000", "-100", "-99", "-1", "0", "1", "2", "50", "98", "99", "100", "101",
            "198", "255", "256", "1000", "9999", "9999*9999", GREATEST};
        int[] due = {0, 0, 0, 0, 0, 0, 0, 1, 2, 50, 98, 99, 99, 99, 99, 99, 99, 99, 99, 99, 99};
        for (int i = 0; i < texts.length; i++) {
            worthIs(texts[i], due[i]);
            GetsOutFirst x = new GetsOutFirst();
            Check.rule(x, "steps 0;late " + texts[i] + ";moves 0;");
            x.rider(0, 0, 90);
            x.rider(0, 0, 91);
            x.rider(0, 0, 194);
            Check.due("9: late " + texts[i], x.floor(1, 1), due[i]);
            x = new GetsOutFirst();
            Check.rule(x, "steps 99;late 99;moves " + texts[i] + ";");
            x.rider(0, 0, 90);
            x.rider(0, 0, 92);
            x.rider(0, 0, 91);
            // 0 pays twice for stepping out at 0 and once more for being late nowhere, or moves
            Check.due("12: moves " + texts[i], x.one(1, 1), Math.min(99, due[i]));
        }
    }

    private static void text0IsFiveOneThree() {
        GetsOutFirst x = new GetsOutFirst();
        x.rider(0, 0, 90);
        x.rider(0, 0, 91);
        x.rider(0, 0, 192);
        Check.due("8: steps 5, late 1", x.floor(1, 1), 6);
        Check.due("8: moves 3", x.one(0, 1), 3);
        Check.due("8: THE RULE at first", x.force(0), 0);
        Check.due("8: as before", x.floor(1, 1), 6);
    }

    /** What steps tells at a floor of who must step out there for one more who gets in. */
    private static void namesAtTheirBounds() {
        for (int floor = 0; floor <= 8; floor++) {
            GetsOutFirst x = new GetsOutFirst();
            Check.rule(x, "steps floor*10+inside;late 0;moves 0;");
            x.rider(0, 0, 90);
            x.rider(0, 0, 100 * floor + 92);
            Check.due("9: floor " + floor + " and inside", x.floor(floor, 1), floor == 0 ? 0 : floor * 10 + 1);
        }
        for (int what : new int[] {0, 9, 90, 99, 50, 5}) {
            GetsOutFirst x = new GetsOutFirst();
            Check.rule(x, "steps number*10+size;late 0;moves 0;");
            x.rider(0, what, 90);
            x.rider(0, 0, 92);
            Check.due("9: NUMBER and SIZE " + what, x.ride(0), what);
        }
        for (int place = 0; place < 4; place++) {
            GetsOutFirst x = new GetsOutFirst();
            Check.rule(x, "steps 10*row+1;late 0;moves 0;");
            x.rider(0, 0, 90 + place);
            x.rider(0, 0, 94 + place % 2);
            Check.due("9: row of PLACE " + place, x.ride(0), place / 2 * 10 + 1);
        }
        for (int r = 0; r <= 4; r++) {
            GetsOutFirst x = new GetsOutFirst();
            Check.rule(x, "steps 10*rider+1;late 0;moves 0;");
            for (int k = 0; k < r; k++) {
                x.rider(0, 0, k == 0 ? 54 : 100 * k + 10 * (k + 1) + 1);
            }
            Check.due("9: RIDER " + r, x.rider(0, 0, 90), r);
            if (r == 0) {
                x.rider(0, 0, 54);
            }
            Check.due("9: rider " + r, x.floor(5, 1), 10 * r + 1);
        }
        GetsOutFirst x = new GetsOutFirst();
        Check.rule(x, "steps 10*inside+rider;late 0;moves floor*10+inside;");
        x.rider(0, 0, 90);
        x.rider(0, 0, 91);
        x.rider(0, 0, 93);
        x.rider(0, 0, 95);
        x.rider(0, 0, 94);
        Check.due("9: inside, of none at 0", x.floor(0, 1), 0 + 0 + 1 + 2);
        x.set(3, 4, 8);
        Check.due("9: inside, of all five", x.floor(8, 1), 50);
        for (int from = 0; from <= 8; from++) {
            x = new GetsOutFirst();
            Check.rule(x, "steps 99;late 0;moves floor*5+20*inside+10*row+number+2*rider;");
            x.rider(0, 0, 91);
            x.rider(0, 0, 90);
            x.rider(0, 30, 100 * from + 94);
            // it is behind somebody on both sides, so it stays, till RIDER 1 leaves the door free
            Check.due("12: moves, of one from " + from, x.one(2, 1), 99);
            x.set(4, 1, 2);
            Check.due("12: moves, of one from " + from + ", to the door", x.one(2, 1), 5 * from + 3 + 4);
        }
    }
}
