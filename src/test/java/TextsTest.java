/** Promises 6 to 8: the tape, the texts and the rule. */
public final class TextsTest {
    private static final String RIGHT = "steps 5;late 1;moves 3;";

    public static void main(String[] args) {
        feedCounts();
        feedRefuses();
        rightTexts();
        faults();
        faultsOfOpenSigns();
        bytesThatBeginNothing();
        theTapeIsEmptyThen();
        textsAreFull();
        whatTextsAreWorth();
        theDeepestText();
        namesOfARider();
        theBounds();
        forceAnswersWhichWas();
        Check.end("TextsTest");
    }

    private static void feedCounts() {
        GetsOutFirst x = new GetsOutFirst();
        for (int n = 1; n <= 160; n++) {
            Check.due("6: feed", x.feed(n % 256), n);
        }
        Check.due("6: no room", x.feed(0), GetsOutFirst.FULL);
        Check.due("6: BAD ahead of FULL", x.feed(256), GetsOutFirst.BAD);
        Check.due("6: bytes", x.count(3), 160);
    }

    private static void feedRefuses() {
        GetsOutFirst x = new GetsOutFirst();
        Check.due("6: 0", x.feed(0), 1);
        Check.due("6: 255", x.feed(255), 2);
        for (int letter : new int[] {-1, 256, Integer.MIN_VALUE, Integer.MAX_VALUE}) {
            Check.due("6: feed(" + letter + ")", x.feed(letter), GetsOutFirst.BAD);
        }
        Check.due("6: refusals change nothing", x.count(3), 2);
    }

    private static long textOf(String text) {
        GetsOutFirst x = new GetsOutFirst();
        Check.feed(x, text);
        return x.text();
    }

    private static void rightTexts() {
        String[] right = {RIGHT, "steps5;late1;moves3;", "\n steps\n5 ; late 1 ;\nmoves 3 ; \n",
            "steps rider;late floor;moves size;", "steps row;late number;moves inside;",
            "steps 1 or 0 and not 1<2;late 1=2;moves 1+2-3*4;", "steps 0000;late 9999;moves 0;",
            "steps not not not not not 1;late -----1;moves (((((1)))));", "steps 1--1;late 2*-1;moves not(1)=(2);",
            "steps 1or 2and 3;late 4or(5);moves 6;", "steps -(-(1))--(-(1));late 1;moves 1;"};
        for (String text : right) {
            Check.due("7: '" + text + "'", textOf(text), 1);
        }
    }

    /** The fault's place is told by a ^ ahead of it. */
    private static void fault(String marked) {
        int place = marked.indexOf('^');
        Check.due("7: '" + marked + "'", textOf(marked.replace("^", "")), -100 - place);
    }

    private static void faults() {
        String[] marked = {"^", "  \n^", "^late 1;", "^5", "steps^", "steps ^", "steps ^;", "steps 5^", "steps 5 ^late 1;",
            "steps 5;^moves 3;", "steps 5;late 1;moves 3^", "steps 5;late 1;moves 3;^;", "steps 5;late 1;moves 3; ^x",
            "steps 5;late 1;moves 3;^5", "steps 5;late 1;moves 3;\n^@", "steps 5;late 1;^", "steps ^steps", "steps ^@",
            "steps ^Rider", "steps ^riders", "steps ^ride", "^stepslate", "steps ^12345;", "steps 1+^00001;",
            "steps 1 ^1", "steps 1 ^rider", "steps 1^(", "steps (1^;", "steps (1 ^1)", "steps (^)",
            "steps 1+^;", "steps 1+^+1;", "steps 1*^*1;", "steps 1<2^<3;", "steps 1=2^=3;", "steps 1<2^=3;", "steps 1<^;",
            "steps ^<1;", "steps 1 or ^;", "steps 1 or ^or 1;", "steps ^and 1;", "steps 1 and^", "steps not ^;",
            "steps 1+^not 1;", "steps 1<^not 1;", "steps -^not 1;", "steps 1*^not 1;", "steps 1 ^not 1;", "steps 1^);",
            "steps 1 ^\t;", "steps^\r1;", "steps 5 ^5 @", "steps 5 ^12345", "steps ^late;", "steps 1;late ^moves;",
            "steps 1;late 1;^steps 1;", "steps (1<2)<3^<4;", "steps 1 ^,2", "steps 1^>2", "steps 1 ^\u00e9",
            "steps 1^\u0000;", "steps -^foo 1;late 1;moves 1;", "steps not ^foo 1;late 1;moves 1;",
            "steps (^foo 1);late 1;moves 1;", "steps 1+^foo 1;late 1;moves 1;", "steps ^sider;", "steps ^ridee;", "steps ^rxder;",
            "^stepz 1;", "steps ^zow;", "steps 1;^mate 1;", "steps 1 ^ar 2;", "steps ^rowrow;", "steps ^numbe;"};
        for (String text : marked) {
            fault(text);
        }
    }

    private static void faultsOfOpenSigns() {
        String[] marked = {"steps (((((^(1))))));late 1;moves 1;", "steps not not not not not ^not 1;", "steps -----^-1;",
            "steps not-(not-^(1", "steps not-(not(^-1", "steps not-(not(^(1", "steps not-(not(^not 1", "steps ((((not^(1",
            "steps ((((1<-^-1", "steps (((((1-^-1", "steps not not not not not 1<^-1;", "steps not not not not not 1<^(1);",
            "steps (((((1)))))+(((((^(1", "steps -(-(-^;", "steps (((((1-1)))))^)"};
        for (String text : marked) {
            fault(text);
        }
        String[] right = {"steps -----1-----1;late 1;moves 1;", "steps (((((1)))))+(((((1)))));late 1;moves 1;",
            "steps not not not not not 1 and not 1;late 1;moves 1;", "steps (not (not -1));late 1;moves 1;",
            "steps (((((1-1-1)))));late 1;moves 1;", "steps not 1 and not 1 and not 1 and not 1 and not 1 and not 1;late 1;moves 1;",
            "steps -1+-1+-1+-1+-1+-1+-1;late -1;moves 1;"};
        for (String text : right) {
            Check.due("7: '" + text + "'", textOf(text), 1);
        }
    }

    private static void bytesThatBeginNothing() {
        for (char b = 0; b < 256; b++) {
            if (b >= 'a' && b <= 'z' || b >= '0' && b <= '9' || "();+-*<= \n".indexOf(b) >= 0) {
                continue;
            }
            Check.due("7: byte " + (int) b, textOf(b + " 1;late 1;moves 1;"), -100);
            Check.due("7: byte " + (int) b + " for an E", textOf("steps " + b + ";late 1;moves 1;"), -106);
            Check.due("7: byte " + (int) b + " behind an E", textOf("steps 1 " + b + "1;late 1;moves 1;"), -108);
            Check.due("7: byte " + (int) b + " behind all", textOf("steps 1;late 1;moves 1;" + b), -123);
        }
    }

    private static void theTapeIsEmptyThen() {
        GetsOutFirst x = new GetsOutFirst();
        Check.feed(x, "steps 1 1");
        Check.due("7: a fault", x.text(), -108);
        Check.due("7: empty by a fault", x.count(3), 0);
        Check.due("7: no text more", x.count(2), 1);
        Check.due("7: an empty one", x.text(), -100);
        Check.feed(x, RIGHT);
        Check.due("7: a text", x.text(), 1);
        Check.due("7: empty by a text", x.count(3), 0);
        Check.due("7: a text more", x.count(2), 2);
        Check.due("7: the rule stays", x.count(4), 0);
        Check.feed(x, "l");
        Check.due("7: nothing old is read", x.text(), -100);
        String[] olds = {"steps 5555", "steps rowrow", "steps 1    "};
        String[] news = {"steps 5", "steps row", "steps 1 "};
        for (int i = 0; i < olds.length; i++) {
            Check.feed(x, olds[i]);
            x.text();
            Check.feed(x, news[i]);
            Check.due("7: '" + news[i] + "' behind '" + olds[i] + "'", x.text(), -100 - news[i].length());
        }
    }

    private static void textsAreFull() {
        GetsOutFirst x = new GetsOutFirst();
        for (int n = 1; n <= 5; n++) {
            Check.feed(x, "steps " + n + ";late 1;moves 3;");
            Check.due("7: text", x.text(), n);
        }
        Check.feed(x, "steps");
        Check.due("7: no room, ahead of a fault", x.text(), GetsOutFirst.FULL);
        Check.due("7: the tape stays", x.count(3), 5);
        Check.due("7: six texts", x.count(2), 6);
        x.rider(0, 0, 90);
        x.rider(0, 0, 92);
        for (int n = 1; n <= 5; n++) {
            Check.due("8: force", x.force(n), n - 1);
            Check.due("8: the rule holds", x.ride(0), n);
        }
    }

    /** What steps tells of a plain rider 0, NUMBER 3, SIZE 7, on place 0, at floor 0. */
    private static long worth(String e) {
        GetsOutFirst x = new GetsOutFirst();
        Check.rule(x, "steps " + e + ";late 0;moves 0;");
        x.rider(0, 37, 90);
        x.rider(0, 0, 92);
        return x.ride(0);
    }

    private static void whatTextsAreWorth() {
        String[] texts = {"1+2*3", "(1+2)*3", "20-5-4", "20-(5-4)", "2*3*4", "--7", "10--7", "10- -7", "5<6", "6<6", "6=6",
            "5=6", "7<6", "not 0", "not 5", "not not 5", "0 or 0", "0 or 7", "7 or 0", "7 and 8", "7 and 0", "0 and 7",
            "1 or 1 and 0", "(1 or 1) and 0", "not 1 or 1", "not 0 and 0", "not 5<6", "not 6<5", "1+1<3", "1<1+1",
            "(1<2)+(2<3)", "-1<0", "0-1<0", "2+(3 or 4)", "7", "size", "number", "size*10+number", "-(3-10)",
            "2=2 and 3<4 or 0", "5*-2+17", "not -5", "0 or 0 or 0 or 4", "1 and 1 and 1 and 0", "0007", "3*(2 or 0)",
            "not not not 3", "1<2 and 1=1"};
        long[] due = {7, 9, 11, 19, 24, 7, 17, 17, 1, 0, 1,
            0, 0, 1, 0, 1, 0, 1, 1, 1, 0, 0,
            1, 0, 1, 0, 0, 1, 1, 1,
            2, 1, 1, 3, 7, 7, 3, 73, 7,
            1, 7, 0, 1, 0, 7, 3,
            0, 1};
        for (int i = 0; i < texts.length; i++) {
            Check.due("7: " + texts[i], worth(texts[i]), due[i]);
        }
        Check.due("7: 32 bits wrap", worth("9999*9999*9999<0"), 9999 * 9999 * 9999 < 0 ? 1 : 0);
        Check.due("7: 65536 * 65536 is 0", worth("256*256*256*256+5"), 5);
        Check.due("7: below the least int is a great one", worth("0<-(256*256*256*128)-1"), 1);
        Check.due("7: the least int's opposite", worth("-(256*256*256*128)<0"), 1);
    }

    private static void theDeepestText() {
        String e = "0or 1and 0<1+1*(".repeat(5) + "0or 1and 0<1+1*2" + ")".repeat(5);
        Check.due("7: the deepest", worth(e), 1);
        Check.due("7: the longest sum", worth("1" + "+1".repeat(60)), 61);
    }

    /** The digits tell what each name is of one who steps out at floor 3. */
    private static void namesOfARider() {
        String[] names = {"rider", "floor", "size", "row", "number", "inside"};
        long[] due = {2, 3, 7, 1, 4, 4};
        for (int i = 0; i < names.length; i++) {
            GetsOutFirst x = new GetsOutFirst();
            Check.rule(x, "steps " + names[i] + ";late 0;moves 0;");
            x.rider(0, 0, 10);
            x.rider(0, 0, 34);
            x.rider(0, 47, 92);
            x.rider(0, 0, 31);
            x.rider(0, 0, 93);
            Check.due("9: " + names[i], x.floor(3, 1), due[i]);
        }
    }

    private static void theBounds() {
        Check.due("9: above 99", worth("100"), 99);
        Check.due("9: far above 99", worth("9999*9999"), 99);
        Check.due("9: 99", worth("99"), 99);
        Check.due("9: below 0", worth("0-1"), 0);
        GetsOutFirst x = new GetsOutFirst();
        Check.rule(x, "steps 0;late 9999;moves 0;");
        x.rider(0, 0, 90);
        x.rider(0, 0, 91);
        x.rider(0, 0, 194);
        Check.due("9: late above 99", x.floor(1, 1), 99);
        Check.rule(x, "steps 0;late -1;moves 0;");
        Check.due("9: late below 0", x.floor(1, 1), 0);
        Check.rule(x, "steps 99;late 0;moves 100*100;");
        Check.due("11: moves above 99", x.one(0, 1), 99);
        Check.rule(x, "steps 99;late 0;moves -3;");
        Check.due("11: moves below 0", x.one(0, 1), 0);
    }

    private static void forceAnswersWhichWas() {
        GetsOutFirst x = new GetsOutFirst();
        Check.due("8: TEXT 0", x.force(0), 0);
        for (int text : new int[] {-1, 1, 5, 6, Integer.MAX_VALUE, Integer.MIN_VALUE}) {
            Check.due("8: force(" + text + ")", x.force(text), GetsOutFirst.BAD);
        }
        Check.feed(x, RIGHT);
        x.text();
        Check.due("8: force(1)", x.force(1), 0);
        Check.due("8: the rule", x.count(4), 1);
        Check.due("8: force(2)", x.force(2), GetsOutFirst.BAD);
        Check.due("8: force(0)", x.force(0), 1);
    }
}
