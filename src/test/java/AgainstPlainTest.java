import java.util.ArrayList;
import java.util.List;
import java.util.Random;

/** All promises: drawn runs of calls, each answered by GetsOutFirst and by PlainLift. */
public final class AgainstPlainTest {
    private static final String[] WORDS = {"rider", "floor", "size", "row", "number", "inside", "steps", "late",
        "moves", "or", "and", "not", "(", ")", ";", "+", "-", "*", "<", "=", "7", "0", "12345", "@", "nor", "\t"};

    private final Random random;
    private final GetsOutFirst x = new GetsOutFirst();
    private final PlainLift plain = new PlainLift();
    private final List<String> calls = new ArrayList<>();

    private AgainstPlainTest(long seed) {
        random = new Random(seed);
    }

    public static void main(String[] args) {
        int runs = args.length > 0 ? Integer.parseInt(args[0]) : 2000;
        int first = args.length > 1 ? Integer.parseInt(args[1]) : 0;
        for (int seed = first; seed < first + runs; seed++) {
            if (!new AgainstPlainTest(seed).run()) {
                break;
            }
        }
        Check.end("AgainstPlainTest");
    }

    private boolean run() {
        int many = 20 + random.nextInt(120);
        for (int k = 0; k < many; k++) {
            if (!call(random.nextInt(100))) {
                calls.forEach(c -> System.out.println("    " + c));
                return false;
            }
        }
        return true;
    }

    private boolean same(String call, long got, long want) {
        calls.add(call + " = " + want);
        Check.due(call, got, want);
        return got == want;
    }

    /** Mostly one of 0 .. n - 1, seldom one beside them or far away. */
    private int near(int n) {
        int draw = random.nextInt(60);
        if (draw == 0) return -1 - random.nextInt(3);
        if (draw == 1) return n + random.nextInt(3);
        if (draw == 2) return random.nextInt();
        if (draw == 3) return random.nextBoolean() ? Integer.MAX_VALUE : Integer.MIN_VALUE;
        return n <= 0 ? 0 : random.nextInt(n);
    }

    private int aRider() {
        return near(plain.riders.size());
    }

    private int aWay() {
        int from = random.nextInt(4) == 0 ? random.nextInt(9) : random.nextInt(3);
        int to = from + 1 + random.nextInt(9 - from);
        return random.nextInt(25) == 0 ? near(1000) : 100 * from + 10 * to + random.nextInt(6);
    }

    private String anE(int depth) {
        switch (random.nextInt(depth <= 0 ? 5 : 16)) {
            case 0: case 1: return Integer.toString(random.nextInt(random.nextBoolean() ? 12 : 10000));
            case 2: case 3: case 4: return WORDS[random.nextInt(6)];
            case 5: return "not " + anE(depth - 1);
            case 6: return "-" + anE(depth - 1);
            case 7: case 8: return "(" + anE(depth - 1) + ")";
            case 9: return anE(depth - 1) + " or " + anE(depth - 1);
            case 10: return anE(depth - 1) + " and " + anE(depth - 1);
            case 11: return anE(depth - 1) + "<" + anE(depth - 1);
            case 12: return anE(depth - 1) + " = " + anE(depth - 1);
            case 13: return anE(depth - 1) + "\n+" + anE(depth - 1);
            case 14: return anE(depth - 1) + "-" + anE(depth - 1);
            default: return anE(depth - 1) + "*" + anE(depth - 1);
        }
    }

    private String aText() {
        int depth = random.nextInt(5);
        String text = "steps " + anE(depth) + "; late " + anE(depth) + ";moves " + anE(depth) + ";";
        int harm = random.nextInt(12);
        int at = random.nextInt(text.length());
        if (harm == 0) return text.substring(0, at);
        if (harm == 1) return text.substring(0, at) + WORDS[random.nextInt(WORDS.length)] + text.substring(at);
        if (harm == 2) return text.substring(0, at) + (char) random.nextInt(256) + text.substring(at + 1);
        if (harm == 3) return text + " \n ";
        return text;
    }

    private boolean call(int draw) {
        if (draw < 12) {
            int kind = near(6), what = near(100), way = aWay();
            return same("rider(" + kind + "," + what + "," + way + ")",
                x.rider(kind, what, way), plain.rider(kind, what, way));
        }
        if (draw < 26) {
            return callSet();
        }
        if (draw < 34) {
            return callText();
        }
        if (draw < 46) {
            int what = near(3), floor = near(10);
            return same("ride(" + what + ")", x.ride(what), plain.ride(what))
                && same("floor(" + floor + "," + what + ")", x.floor(floor, what), plain.floor(floor, what));
        }
        if (draw < 62) {
            return callStand();
        }
        if (draw < 82) {
            return callLandings();
        }
        return callHost();
    }

    private boolean callSet() {
        int what = near(6), of = aRider(), rider = aRider(), other = aRider(), v = near(what == 5 ? 101 : what == 0 ? 4 : 10);
        int asked = near(7);
        return same("set(" + what + "," + of + "," + v + ")", x.set(what, of, v), plain.set(what, of, v))
            && same("told(" + rider + "," + asked + ")", x.told(rider, asked), plain.told(rider, asked))
            && same("lets(" + rider + "," + other + ")", x.lets(rider, other), plain.lets(rider, other));
    }

    private boolean callText() {
        String text = aText();
        boolean right = true;
        for (int i = 0; i < text.length() && right; i++) {
            right = same("feed(" + (int) text.charAt(i) + ")", x.feed(text.charAt(i)), plain.feed(text.charAt(i)));
        }
        int letter = near(256), number = near(plain.texts.size() + 1);
        if (random.nextInt(20) == 0) {
            right = right && same("feed(" + letter + ")", x.feed(letter), plain.feed(letter));
        }
        return right && same("text()", x.text(), plain.text())
            && same("force(" + number + ")", x.force(number), plain.force(number));
    }

    private boolean callStand() {
        int what = near(2), part = near(2), rider = aRider(), who = random.nextBoolean() ? -1 : aRider();
        switch (random.nextInt(12)) {
            case 0: return same("stand(" + who + ")", x.stand(who), plain.stand(who));
            case 1: return same("stands()", x.stands(), plain.stands());
            case 2: case 3: case 4:
                return same("one(" + rider + "," + what + ")", x.one(rider, what), plain.one(rider, what));
            case 5: case 6: return same("change(" + what + ")", x.change(what), plain.change(what));
            case 7: case 8: return same("second(" + what + ")", x.second(what), plain.second(what));
            default: return same("mean(" + what + "," + part + ")", x.mean(what, part), plain.mean(what, part));
        }
    }

    private boolean callLandings() {
        int sheet = near(4), rider = aRider(), what = near(3), n = near(11), seed = random.nextInt();
        switch (random.nextInt(10)) {
            case 0: case 1: return same("film(" + sheet + "," + n + ")", x.film(sheet, n), plain.film(sheet, n));
            case 2: return same("landings(" + sheet + ")", x.landings(sheet), plain.landings(sheet));
            case 3: case 4: case 5: return same("seen(" + sheet + "," + rider + "," + what + ")",
                x.seen(sheet, rider, what), plain.seen(sheet, rider, what));
            case 6: return same("drawn(" + seed + ")", x.drawn(seed), plain.drawn(seed));
            case 7: {
                int many = near(21), part = near(2);
                return same("chance(" + seed + "," + many + "," + part + ")",
                    x.chance(seed, many, part), plain.chance(seed, many, part));
            }
            case 8: return random.nextBoolean() ? same("image()", x.image(), plain.image())
                : same("back()", x.back(), plain.back());
            default: {
                int asked = near(5);
                return same("count(" + asked + ")", x.count(asked), plain.count(asked));
            }
        }
    }

    private boolean callHost() {
        int sheet = near(4), other = near(4), sort = near(3), i = near(12), j = near(12), n = near(13);
        switch (random.nextInt(10)) {
            case 0: {
                int s = random.nextInt(5) == 0 ? -1 : sort, m = random.nextInt(8) == 0 ? near(41) : n;
                return same("sheet(" + sheet + "," + s + "," + m + ")", x.sheet(sheet, s, m), plain.sheet(sheet, s, m));
            }
            case 1: case 2: {
                int v = random.nextBoolean() ? random.nextInt(32) : random.nextInt();
                return same("cell(" + sheet + "," + i + "," + v + ")", x.cell(sheet, i, v), plain.cell(sheet, i, v));
            }
            case 3: case 4: return same("copy(" + sheet + "," + i + "," + other + "," + j + "," + n + ")",
                x.copy(sheet, i, other, j, n), plain.copy(sheet, i, other, j, n));
            case 5: case 6: {
                int k = near(6), rider = aRider();
                return same("taken(" + rider + "," + k + ")", x.taken(rider, k), plain.taken(rider, k));
            }
            case 7: case 8: return callRidersOfFullSheet(sheet, sort);
            default: {
                int many = near(6);
                return same("riders(" + sheet + "," + sort + "," + i + "," + many + ")",
                    x.riders(sheet, sort, i, many), plain.riders(sheet, sort, i, many));
            }
        }
    }

    private boolean callRidersOfFullSheet(int sheet, int sort) {
        int many = 1 + random.nextInt(4);
        boolean right = same("sheet(" + sheet + "," + sort + "," + 3 * many + ")",
            x.sheet(sheet, sort, 3 * many), plain.sheet(sheet, sort, 3 * many));
        for (int k = 0; k < many && right; k++) {
            int[] three = {near(6), near(100), aWay()};
            for (int i = 0; i < 3 && right; i++) {
                right = same("cell(" + sheet + "," + (3 * k + i) + "," + three[i] + ")",
                    x.cell(sheet, 3 * k + i, three[i]), plain.cell(sheet, 3 * k + i, three[i]));
            }
        }
        int from = random.nextInt(6) == 0 ? near(12) : 0;
        int n = random.nextInt(6) == 0 ? near(6) : many;
        return right && same("riders(" + sheet + "," + sort + "," + from + "," + n + ")",
            x.riders(sheet, sort, from, n), plain.riders(sheet, sort, from, n));
    }
}
