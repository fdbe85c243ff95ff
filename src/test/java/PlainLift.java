import java.util.ArrayList;
import java.util.List;
import java.util.function.ToIntFunction;

/**
 * The document once more, as slowly and as literally as can be, and built otherwise than GetsOutFirst: kinds are
 * classes, texts are trees of functions, sheets are arrays of their sort, a fault is an exception. Whatever
 * both of them answer alike is at least no slip of the pen.
 */
final class PlainLift {
    static final int NONE = -1, BAD = -2, STATE = -3, FULL = -4;
    static final long NO = -4611686018427387904L;

    static class Rider {
        int id, number, size, from, to, place, chance = 100;
        int row() { return place / 2; }
        int side() { return place % 2; }
        boolean lets(int z, int r) { return false; }
        int costs(int v) { return v; }
        int kind() { return 0; }
        Rider copy(int kind) {
            Rider c = ofKind(kind);
            c.id = id; c.number = number; c.size = size; c.from = from; c.to = to; c.place = place; c.chance = chance;
            return c;
        }
        static Rider ofKind(int kind) {
            return switch (kind) {
                case 0 -> new Rider();
                case 1 -> new Slim();
                case 2 -> new Laden();
                case 3 -> new Polite();
                case 4 -> new Pram();
                default -> new Small();
            };
        }
    }
    static class Slim extends Rider {
        @Override boolean lets(int z, int r) { return z < number; }
        @Override int kind() { return 1; }
    }
    static class Laden extends Rider {
        @Override int costs(int v) { return 2 * super.costs(v); }
        @Override int kind() { return 2; }
    }
    static class Polite extends Slim {
        @Override boolean lets(int z, int r) { return r == 0 || super.lets(z, r); }
        @Override int costs(int v) { return super.costs(v) - 1; }
        @Override int kind() { return 3; }
    }
    static class Pram extends Laden {
        @Override int costs(int v) { return size + super.costs(v); }
        @Override int kind() { return 4; }
    }
    static class Small extends Slim {
        @Override boolean lets(int z, int r) { return z + size < 10 || super.lets(z, r); }
        @Override int costs(int v) { return super.costs(v) / 2; }
        @Override int kind() { return 5; }
    }

    record Names(int rider, int floor, int size, int row, int number, int inside) { }
    record Rule(ToIntFunction<Names> steps, ToIntFunction<Names> late, ToIntFunction<Names> moves) { }

    static final class Fault extends RuntimeException {
        private static final long serialVersionUID = 1;
        final int place;
        Fault(int place) { super("fault"); this.place = place; }
    }

    /** Tokens are split off the text's rest by regular expressions. */
    static final class Parser {
        final String text;
        int at;
        int open;
        Parser(String text) { this.text = text; }

        String peek() {
            while (at < text.length() && (text.charAt(at) == ' ' || text.charAt(at) == '\n')) at++;
            if (at == text.length()) return "";
            int end = at;
            char c = text.charAt(at);
            if (c >= 'a' && c <= 'z') {
                while (end < text.length() && text.charAt(end) >= 'a' && text.charAt(end) <= 'z') end++;
            } else if (c >= '0' && c <= '9') {
                while (end < text.length() && text.charAt(end) >= '0' && text.charAt(end) <= '9') end++;
            } else {
                end++;
            }
            return text.substring(at, end);
        }
        Fault fault() { peek(); return new Fault(at); }
        boolean takes(String token) {
            if (!peek().equals(token)) return false;
            at += token.length();
            return true;
        }
        void needs(String token) { if (!takes(token)) throw fault(); }
        void opens() { if (open == 5) throw fault(); open++; }

        Rule rule() {
            needs("steps");
            ToIntFunction<Names> steps = e();
            needs(";");
            needs("late");
            ToIntFunction<Names> late = e();
            needs(";");
            needs("moves");
            ToIntFunction<Names> moves = e();
            needs(";");
            needs("");
            return new Rule(steps, late, moves);
        }
        ToIntFunction<Names> e() {
            ToIntFunction<Names> left = and();
            while (takes("or")) {
                ToIntFunction<Names> a = left, b = and();
                left = n -> (a.applyAsInt(n) != 0) | (b.applyAsInt(n) != 0) ? 1 : 0;
            }
            return left;
        }
        ToIntFunction<Names> and() {
            ToIntFunction<Names> left = not();
            while (takes("and")) {
                ToIntFunction<Names> a = left, b = not();
                left = n -> (a.applyAsInt(n) != 0) & (b.applyAsInt(n) != 0) ? 1 : 0;
            }
            return left;
        }
        ToIntFunction<Names> not() {
            if (peek().equals("not")) {
                opens();
                needs("not");
                ToIntFunction<Names> a = not();
                open--;
                return n -> a.applyAsInt(n) == 0 ? 1 : 0;
            }
            ToIntFunction<Names> a = sum();
            if (takes("<")) {
                ToIntFunction<Names> b = sum();
                return n -> a.applyAsInt(n) < b.applyAsInt(n) ? 1 : 0;
            }
            if (takes("=")) {
                ToIntFunction<Names> b = sum();
                return n -> a.applyAsInt(n) == b.applyAsInt(n) ? 1 : 0;
            }
            return a;
        }
        ToIntFunction<Names> sum() {
            ToIntFunction<Names> left = term();
            while (true) {
                ToIntFunction<Names> a = left;
                if (takes("+")) {
                    ToIntFunction<Names> b = term();
                    left = n -> a.applyAsInt(n) + b.applyAsInt(n);
                } else if (takes("-")) {
                    ToIntFunction<Names> b = term();
                    left = n -> a.applyAsInt(n) - b.applyAsInt(n);
                } else {
                    return left;
                }
            }
        }
        ToIntFunction<Names> term() {
            ToIntFunction<Names> left = one();
            while (takes("*")) {
                ToIntFunction<Names> a = left, b = one();
                left = n -> a.applyAsInt(n) * b.applyAsInt(n);
            }
            return left;
        }
        ToIntFunction<Names> one() {
            String token = peek();
            if (token.matches("[0-9]{1,4}")) {
                needs(token);
                int v = Integer.parseInt(token);
                return n -> v;
            }
            switch (token) {
                case "rider": needs(token); return Names::rider;
                case "floor": needs(token); return Names::floor;
                case "size": needs(token); return Names::size;
                case "row": needs(token); return Names::row;
                case "number": needs(token); return Names::number;
                case "inside": needs(token); return Names::inside;
                case "-": {
                    opens();
                    needs("-");
                    ToIntFunction<Names> a = one();
                    open--;
                    return n -> -a.applyAsInt(n);
                }
                case "(": {
                    opens();
                    needs("(");
                    ToIntFunction<Names> a = e();
                    needs(")");
                    open--;
                    return a;
                }
                default: throw fault();
            }
        }
    }

    List<Rider> riders = new ArrayList<>();
    int doors = 1;
    List<Rule> texts = new ArrayList<>();
    int rule = 0;
    String tape = "";
    Object[] sheets = new Object[4];
    List<Rider> keptRiders;
    int keptDoors, keptRule;

    PlainLift() { texts.add(new Parser("steps 5 ; late 1 ; moves 3 ;").rule()); }

    static List<Rider> copyOf(List<Rider> rs) {
        List<Rider> out = new ArrayList<>();
        for (Rider r : rs) out.add(r.copy(r.kind()));
        return out;
    }
    static boolean canStand(List<Rider> rs) {
        for (int gap = 0; gap < 9; gap++) {
            boolean[] taken = new boolean[6];
            for (Rider r : rs) {
                if (r.from <= gap && gap < r.to) {
                    if (taken[r.place]) return false;
                    taken[r.place] = true;
                }
            }
        }
        return true;
    }
    boolean isRider(int r) { return 0 <= r && r < riders.size(); }
    static int bound(int v) { return v < 0 ? 0 : v > 99 ? 99 : v; }

    /** Who, of these, must step out for one who passes. */
    static List<Rider> mustFor(Rider one, List<Rider> of, int doors) {
        List<Rider> front = new ArrayList<>(), back = new ArrayList<>();
        for (Rider o : of) {
            if (o.side() != one.side() || o.lets(one.size, o.row())) continue;
            if (o.row() < one.row()) front.add(o);
            if (o.row() > one.row()) back.add(o);
        }
        return doors == 2 && back.size() < front.size() ? back : front;
    }
    static List<Rider> staying(List<Rider> rs, int f) {
        List<Rider> out = new ArrayList<>();
        for (Rider r : rs) if (r.from < f && r.to > f) out.add(r);
        return out;
    }
    static int out(List<Rider> rs, int doors, int f) {
        int bits = 0;
        for (Rider r : rs) {
            if (r.to == f) for (Rider o : mustFor(r, staying(rs, f), doors)) bits |= 1 << o.id;
        }
        for (Rider r : rs) {
            if (r.from != f) continue;
            List<Rider> there = staying(rs, f);
            for (Rider o : rs) if (o.from == f && o.id < r.id) there.add(o);
            for (Rider o : mustFor(r, there, doors)) bits |= 1 << o.id;
        }
        return bits;
    }
    int costAt(List<Rider> rs, int doors, int f) {
        int bits = out(rs, doors, f);
        if (bits == 0) return 0;
        int inside = 0;
        for (Rider r : rs) if (r.from < f && r.to >= f) inside++;
        int cost = 0;
        for (Rider r : rs) {
            Names n = new Names(r.id, f, r.size, r.row(), r.number, inside);
            if ((bits & 1 << r.id) != 0) cost += Math.max(0, r.costs(bound(texts.get(rule).steps().applyAsInt(n))));
            else if (staying(rs, f).contains(r)) cost += bound(texts.get(rule).late().applyAsInt(n));
        }
        return cost;
    }
    int cost(List<Rider> rs, int doors) {
        int cost = 0;
        for (int f = 0; f < 10; f++) cost += costAt(rs, doors, f);
        return cost;
    }
    static int steps(List<Rider> rs, int doors) {
        int n = 0;
        for (int f = 0; f < 10; f++) n += Integer.bitCount(out(rs, doors, f));
        return n;
    }
    int moves(List<Rider> rs) {
        int sum = 0;
        for (Rider r : rs) {
            if (r.place != riders.get(r.id).place) {
                Names n = new Names(r.id, r.from, r.size, r.row(), r.number, 0);
                sum += bound(texts.get(rule).moves().applyAsInt(n));
            }
        }
        return sum;
    }

    int rider(int kind, int what, int way) {
        if (kind < 0 || kind > 5 || what < 0 || what > 99 || way < 0) return BAD;
        int from = way / 100, to = way / 10 % 10, place = way % 10;
        if (from > 8 || to < 1 || to <= from || place > 5) return BAD;
        if (riders.size() == 5) return FULL;
        Rider r = Rider.ofKind(kind);
        r.id = riders.size(); r.number = what / 10; r.size = what % 10; r.from = from; r.to = to; r.place = place;
        riders.add(r);
        if (canStand(riders)) return r.id;
        riders.remove(r);
        return STATE;
    }
    int set(int what, int of, int v) {
        int was;
        if (what == 0) {
            if (v != 1 && v != 2) return BAD;
            was = doors;
            doors = v;
            return was;
        }
        if (what < 1 || what > 5 || !isRider(of)) return BAD;
        Rider r = riders.get(of);
        switch (what) {
            case 1: if (v < 0 || v > 9) return BAD; was = r.number; r.number = v; return was;
            case 2: if (v < 0 || v > 9) return BAD; was = r.size; r.size = v; return was;
            case 3:
                if (v <= r.from || v > 9) return BAD;
                was = r.to;
                r.to = v;
                if (canStand(riders)) return was;
                r.to = was;
                return STATE;
            case 4:
                if (v < 0 || v > 5) return BAD;
                was = r.place;
                r.place = v;
                if (canStand(riders)) return was;
                r.place = was;
                return STATE;
            default: if (v < 0 || v > 100) return BAD; was = r.chance; r.chance = v; return was;
        }
    }
    int told(int rider, int what) {
        if (!isRider(rider)) return BAD;
        Rider r = riders.get(rider);
        return switch (what) {
            case 0 -> r.kind();
            case 1 -> r.number;
            case 2 -> r.size;
            case 3 -> r.to;
            case 4 -> r.place;
            case 5 -> r.chance;
            case 6 -> r.from;
            default -> BAD;
        };
    }
    int lets(int rider, int other) {
        if (!isRider(rider) || !isRider(other) || rider == other) return BAD;
        return riders.get(rider).lets(riders.get(other).size, riders.get(rider).row()) ? 1 : 0;
    }
    int feed(int letter) {
        if (letter < 0 || letter > 255) return BAD;
        if (tape.length() == 160) return FULL;
        tape += (char) letter;
        return tape.length();
    }
    int text() {
        if (texts.size() == 6) return FULL;
        String was = tape;
        tape = "";
        try {
            texts.add(new Parser(was).rule());
            return texts.size() - 1;
        } catch (Fault f) {
            return -100 - f.place;
        }
    }
    int force(int text) {
        if (text < 0 || text >= texts.size()) return BAD;
        int was = rule;
        rule = text;
        return was;
    }
    int ride(int what) {
        if (what == 0) return cost(riders, doors);
        if (what == 1) return steps(riders, doors);
        if (what != 2) return BAD;
        int bits = 0;
        for (int f = 0; f < 10; f++) if (out(riders, doors, f) != 0) bits |= 1 << f;
        return bits;
    }
    int floor(int floor, int what) {
        if (floor < 0 || floor > 9) return BAD;
        if (what == 0) return out(riders, doors, floor);
        if (what == 1) return costAt(riders, doors, floor);
        if (what != 2) return BAD;
        int bits = 0;
        for (Rider r : riders) if (r.from <= floor && r.to > floor) bits |= 1 << r.id;
        return bits;
    }

    /** All ways to stand, in their order. */
    List<List<Rider>> ways() {
        List<List<Rider>> all = new ArrayList<>();
        int n = riders.size();
        int many = (int) Math.pow(6, n);
        for (int code = 0; code < many; code++) {
            List<Rider> rs = copyOf(riders);
            int rest = code;
            for (int r = n - 1; r >= 0; r--) {
                rs.get(r).place = rest % 6;
                rest /= 6;
            }
            if (canStand(rs)) all.add(rs);
        }
        return all;
    }
    List<Rider> best() {
        List<Rider> best = null;
        int least = 0;
        for (List<Rider> rs : ways()) {
            int total = cost(rs, doors) + moves(rs);
            if (best == null || total < least) {
                best = rs;
                least = total;
            }
        }
        return best;
    }
    int stand(int what) {
        if (what != NONE && !isRider(what)) return -100;
        List<Rider> best = best();
        return what == NONE ? cost(best, doors) + moves(best) : best.get(what).place;
    }
    int one(int rider, int what) {
        if (!isRider(rider) || what < 0 || what > 1) return BAD;
        int place = NONE, least = Integer.MAX_VALUE;
        for (int p = 0; p < 6; p++) {
            List<Rider> rs = copyOf(riders);
            rs.get(rider).place = p;
            if (canStand(rs) && cost(rs, doors) + moves(rs) < least) {
                least = cost(rs, doors) + moves(rs);
                place = p;
            }
        }
        return what == 0 ? place : least;
    }
    int change(int what) {
        if (what < 0 || what > 1) return BAD;
        int least = cost(riders, doors), pair = NONE;
        for (int a = 0; a < riders.size(); a++) {
            for (int b = a + 1; b < riders.size(); b++) {
                List<Rider> rs = copyOf(riders);
                rs.get(a).place = riders.get(b).place;
                rs.get(b).place = riders.get(a).place;
                if (canStand(rs) && cost(rs, doors) < least) {
                    least = cost(rs, doors);
                    pair = 10 * a + b;
                }
            }
        }
        return what == 0 ? pair : least;
    }
    int second(int what) {
        if (what == 0) return cost(riders, 1) - cost(riders, 2);
        if (what != 1) return -100000;
        int walker = NONE, least = Integer.MAX_VALUE;
        for (Rider r : riders) {
            List<Rider> rs = new ArrayList<>(riders);
            rs.remove(r);
            if (cost(rs, doors) < least) {
                least = cost(rs, doors);
                walker = r.id;
            }
        }
        return walker;
    }
    int stands() {
        List<Rider> best = best();
        int n = 0;
        for (Rider r : riders) if (r.place != best.get(r.id).place) n++;
        riders = best;
        return n;
    }
    static long lowest(java.math.BigInteger above, java.math.BigInteger below, int part) {
        return (part == 0 ? above : below).divide(above.gcd(below)).longValueExact();
    }
    long mean(int what, int part) {
        if (what < 0 || what > 1 || part < 0 || part > 1) return NO;
        java.math.BigInteger above = java.math.BigInteger.ZERO;
        for (int set = 0; set < Math.pow(2, riders.size()); set++) {
            List<Rider> rs = new ArrayList<>();
            java.math.BigInteger weight = java.math.BigInteger.ONE;
            for (Rider r : riders) {
                boolean there = (set & 1 << r.id) != 0;
                if (there) rs.add(r);
                weight = weight.multiply(java.math.BigInteger.valueOf(there ? r.chance : 100 - r.chance));
            }
            int times = what == 0 ? cost(rs, doors) : steps(rs, doors) == 0 ? 1 : 0;
            above = above.add(weight.multiply(java.math.BigInteger.valueOf(times)));
        }
        return lowest(above, java.math.BigInteger.valueOf(100).pow(riders.size()), part);
    }

    static int length(Object sheet) { return java.lang.reflect.Array.getLength(sheet); }
    static int item(Object sheet, int i) { return java.lang.reflect.Array.getInt(sheet, i); }
    static int unlike(Object sheet, List<Rider> rs, int doors) {
        for (int f = 0; f < length(sheet); f++) if (item(sheet, f) != out(rs, doors, f)) return f;
        return NONE;
    }
    static boolean isSheet(int sheet) { return 0 <= sheet && sheet < 4; }

    int landings(int sheet) {
        if (!isSheet(sheet)) return BAD;
        if (sheets[sheet] == null) return -11;
        if (length(sheets[sheet]) > 10) return BAD;
        return unlike(sheets[sheet], riders, doors);
    }
    int seen(int sheet, int rider, int what) {
        if (!isSheet(sheet) || !isRider(rider) || what < 0 || what > 2) return BAD;
        if (sheets[sheet] == null) return -11;
        if (length(sheets[sheet]) > 10) return BAD;
        int bits = 0;
        for (int v = 0; v < 10; v++) {
            List<Rider> rs = copyOf(riders);
            if (what == 0 && v > rs.get(rider).from) rs.get(rider).to = v;
            else if (what == 1 && v < 6) rs.get(rider).place = v;
            else if (what == 2 && v < 6) rs.set(rider, rs.get(rider).copy(v));
            else continue;
            if (canStand(rs) && unlike(sheets[sheet], rs, doors) == NONE) bits |= 1 << v;
        }
        return bits;
    }
    int film(int sheet, int n) {
        if (!isSheet(sheet) || n < 0 || n > 10) return BAD;
        byte[] row = new byte[n];
        for (int f = 0; f < n; f++) row[f] = (byte) out(riders, doors, f);
        sheets[sheet] = row;
        return n;
    }
    int drawn(int seed) {
        int z = seed;
        List<Rider> then = new ArrayList<>();
        for (Rider r : copyOf(riders)) {
            z = z * 1103515245 + 12345;
            then.add(r);
            r.place = (z >>> 9) % 6;
            while (!canStand(then)) r.place = (r.place + 1) % 6;
        }
        return cost(then, doors);
    }
    long chance(int seed, int n, int part) {
        if (n < 1 || n > 20 || part < 0 || part > 1) return NO;
        int good = 0;
        for (int k = 0; k < n; k++) if (drawn(seed + k) <= cost(riders, doors)) good++;
        return lowest(java.math.BigInteger.valueOf(good), java.math.BigInteger.valueOf(n), part);
    }
    int image() {
        keptRiders = copyOf(riders);
        keptDoors = doors;
        keptRule = rule;
        return riders.size();
    }
    int back() {
        if (keptRiders == null) return STATE;
        riders = copyOf(keptRiders);
        doors = keptDoors;
        rule = keptRule;
        return riders.size();
    }
    int count(int what) {
        return switch (what) {
            case 0 -> riders.size();
            case 1 -> doors;
            case 2 -> texts.size();
            case 3 -> tape.length();
            case 4 -> rule;
            default -> BAD;
        };
    }
    int sheet(int sheet, int sort, int n) {
        if (!isSheet(sheet) || sort < -1 || sort > 2) return BAD;
        if (sort == -1) {
            sheets[sheet] = null;
            return 1;
        }
        if (n > 40) return BAD;
        if (n < 0) return -14;
        sheets[sheet] = sort == 0 ? new byte[n] : sort == 1 ? new short[n] : new int[n];
        return 1;
    }
    int cell(int sheet, int i, int v) {
        if (!isSheet(sheet)) return BAD;
        try {
            if (sheets[sheet] instanceof byte[] b) b[i] = (byte) v;
            else if (sheets[sheet] instanceof short[] s) s[i] = (short) v;
            else if (sheets[sheet] instanceof int[] w) w[i] = v;
            else return -11;
            return 1;
        } catch (ArrayIndexOutOfBoundsException e) {
            return -12;
        }
    }
    int copy(int sheet, int i, int other, int j, int n) {
        if (!isSheet(sheet) || !isSheet(other)) return BAD;
        try {
            System.arraycopy(sheets[sheet], i, sheets[other], j, n);
            return n;
        } catch (NullPointerException e) {
            return -11;
        } catch (ArrayStoreException e) {
            return -13;
        } catch (IndexOutOfBoundsException e) {
            return -12;
        }
    }
    int riders(int sheet, int sort, int from, int n) {
        if (!isSheet(sheet) || sort < 0 || sort > 2 || n < 0 || n > 5) return BAD;
        Class<?> wanted = sort == 0 ? byte[].class : sort == 1 ? short[].class : int[].class;
        try {
            Object row = wanted.cast(sheets[sheet]);
            if (row == null) return -11;
            int came = 0;
            for (int k = 0; k < n; k++) {
                int kind = item(row, from + 3 * k), what = item(row, from + 3 * k + 1), way = item(row, from + 3 * k + 2);
                if (rider(kind, what, way) >= 0) came++;
            }
            return came;
        } catch (ClassCastException e) {
            return -13;
        } catch (ArrayIndexOutOfBoundsException e) {
            return -12;
        }
    }
    int taken(int rider, int k) {
        if (k < 0 || k > 5) return BAD;
        if (!isRider(rider)) return -11;
        return Rider.ofKind(k).getClass().isInstance(riders.get(rider)) ? riders.get(rider).number : -13;
    }
}
