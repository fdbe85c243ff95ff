import java.util.Arrays;

/** A lift in which who gets out first should stand in front; words in capitals are those of ../shared/DOC.md. */
public final class GetsOutFirst {
    public static final int NONE = -1, BAD = -2, STATE = -3, FULL = -4;
    public static final long NO = -4611686018427387904L;

    private static final int MISSING = -11, OUTSIDE = -12, UNLIKE = -13, TOO_SMALL = -14;
    private static final int NO_STANDING = -100, NO_SECOND = -100000, FAULT_AT = -100;

    private static final int MOST_RIDERS = 5, FLOORS = 10, PLACES = 6, ROWS = 3, KINDS = 6;
    private static final int MOST_TEXTS = 6, MOST_BYTES = 160, MOST_OPEN = 5;
    private static final int SHEETS = 4, SORTS = 3, MOST_CELLS = 40, BYTES = 0, SHORTS = 1;
    private static final int MOST_SEEDS = 20;

    private static final int SLIM = 1, LADEN = 2, POLITE = 3, PRAM = 4, SMALL = 5;
    /** The KIND that each KIND is directly under. */
    private static final int[] ABOVE = {NONE, 0, 0, SLIM, LADEN, SLIM};

    private static final int STEPS = 0, LATE = 1, MOVES = 2, PARTS = 3, MOST_PRICE = 99;

    /** Of set() and told(). */
    private static final int DOORS = 0, NUMBER = 1, SIZE = 2, TO = 3, PLACE = 4, CHANCE = 5, FROM = 6;

    private final Crew crew = new Crew();
    private final Crew kept = new Crew();
    private boolean hasImage;
    private final Reader reader = new Reader();
    private final Text[] texts = new Text[MOST_TEXTS];
    private int textCount;
    private final Sheet[] sheets = new Sheet[SHEETS];
    private final Trip trip = new Trip();
    private final Seeker seeker = new Seeker();

    public GetsOutFirst() {
        texts[0] = new Text(new int[] {5, 1, 3}, new int[] {1, 2, 3});
        textCount = 1;
        for (int s = 0; s < SHEETS; s++) {
            sheets[s] = new Sheet();
        }
    }

    // ---- riders

    public int rider(int kind, int what, int way) {
        return comeIn(kind, what, way);
    }

    public int set(int what, int of, int v) {
        if (what == DOORS) {
            return putDoors(v);
        }
        if (what < NUMBER || what > CHANCE || !crew.has(of)) {
            return BAD;
        }
        if (v < leastOf(what, of) || v > mostOf(what)) {
            return BAD;
        }
        return put(crew.rowOf(what), of, v);
    }

    public int told(int rider, int what) {
        if (!crew.has(rider) || what < 0 || what > FROM) {
            return BAD;
        }
        return crew.rowOf(what)[rider];
    }

    public int lets(int rider, int other) {
        if (!crew.has(rider) || !crew.has(other) || rider == other) {
            return BAD;
        }
        return crew.letsBy(rider, crew.size[other]) ? 1 : 0;
    }

    private int comeIn(int kind, int what, int way) {
        if (kind < 0 || kind >= KINDS || what < 0 || what > 99 || !isWay(way)) {
            return BAD;
        }
        int r = crew.count;
        if (r < 0 || r >= MOST_RIDERS) {
            return FULL;
        }
        crew.kind[r] = kind;
        crew.number[r] = what / 10;
        crew.size[r] = what % 10;
        crew.from[r] = way / 100;
        crew.to[r] = way / 10 % 10;
        crew.place[r] = way % 10;
        crew.chance[r] = 100;
        if (!crew.canStand(r, r)) {
            return STATE;
        }
        crew.count = r + 1;
        return r;
    }

    private static boolean isWay(int way) {
        return way >= 0 && way / 100 < FLOORS - 1 && way / 10 % 10 > way / 100 && way % 10 < PLACES;
    }

    private int putDoors(int v) {
        if (v < 1 || v > 2) {
            return BAD;
        }
        int was = crew.doors;
        crew.doors = v;
        return was;
    }

    private int put(int[] row, int of, int v) {
        int was = row[of];
        row[of] = v;
        if (!crew.canStand(of, crew.count)) {
            row[of] = was;
            return STATE;
        }
        return was;
    }

    private int leastOf(int what, int of) {
        return what == TO ? crew.from[of] + 1 : 0;
    }

    private static int mostOf(int what) {
        if (what == PLACE) {
            return PLACES - 1;
        }
        return what == CHANCE ? 100 : 9;
    }

    // ---- texts

    public int feed(int letter) {
        if (letter < 0 || letter > 255) {
            return BAD;
        }
        if (reader.length >= MOST_BYTES) {
            return FULL;
        }
        reader.tape[reader.length] = letter;
        reader.length++;
        return reader.length;
    }

    public int text() {
        if (textCount >= MOST_TEXTS) {
            return FULL;
        }
        boolean right = reader.reads();
        reader.length = 0;
        if (!right) {
            return FAULT_AT - reader.tokenAt;
        }
        texts[textCount] = reader.whatWasRead();
        textCount++;
        return textCount - 1;
    }

    public int force(int text) {
        if (text < 0 || text >= textCount) {
            return BAD;
        }
        int was = crew.rule;
        crew.rule = text;
        return was;
    }

    // ---- the ride

    public int ride(int what) {
        if (what < 0 || what > 2) {
            return BAD;
        }
        setOut();
        if (what == 0) {
            return trip.cost();
        }
        return what == 1 ? trip.steps() : trip.floorsWithSteps();
    }

    public int floor(int floor, int what) {
        if (floor < 0 || floor >= FLOORS || what < 0 || what > 2) {
            return BAD;
        }
        setOut();
        if (what == 0) {
            return trip.whoStepsOut(floor);
        }
        return what == 1 ? trip.costAt(floor, trip.whoStepsOut(floor)) : trip.whoGoesOn(floor);
    }

    /** What is tried is as it truly is. */
    private void setOut() {
        boolean hasRule = crew.rule >= 0 && crew.rule < textCount;
        trip.start(crew, hasRule ? texts[crew.rule] : null);
    }

    // ---- where to stand

    public int stand(int what) {
        if (what != NONE && !crew.has(what)) {
            return NO_STANDING;
        }
        setOut();
        seeker.find(trip);
        return what == NONE ? seeker.least : seeker.best[what];
    }

    public int one(int rider, int what) {
        if (!crew.has(rider) || what < 0 || what > 1) {
            return BAD;
        }
        setOut();
        int place = NONE;
        int least = 0;
        for (int p = 0; p < PLACES; p++) {
            trip.crew.place[rider] = p;
            if (!trip.crew.canStand(rider, crew.count)) {
                continue;
            }
            trip.settle();
            int total = trip.cost() + (p == crew.place[rider] ? 0 : trip.costToMove(rider));
            if (place == NONE || total < least) {
                place = p;
                least = total;
            }
        }
        return what == 0 ? place : least;
    }

    public int change(int what) {
        if (what < 0 || what > 1) {
            return BAD;
        }
        setOut();
        int pair = NONE;
        int least = trip.cost();
        for (int a = 0; a < crew.count; a++) {
            for (int b = a + 1; b < crew.count; b++) {
                int then = costOfChanging(a, b, least);
                if (then < least) {
                    least = then;
                    pair = 10 * a + b;
                }
            }
        }
        return what == 0 ? pair : least;
    }

    public int second(int what) {
        if (what < 0 || what > 1) {
            return NO_SECOND;
        }
        setOut();
        if (what == 1) {
            return whoShouldWalk();
        }
        trip.crew.doors = 1;
        int withOne = trip.cost();
        trip.crew.doors = 2;
        return withOne - trip.cost();
    }

    public int stands() {
        setOut();
        seeker.find(trip);
        int moved = 0;
        for (int r = 0; r < crew.count; r++) {
            if (crew.place[r] != seeker.best[r]) {
                moved++;
                crew.place[r] = seeker.best[r];
            }
        }
        return moved;
    }

    public long mean(int what, int part) {
        if (what < 0 || what > 1 || part < 0 || part > 1) {
            return NO;
        }
        setOut();
        long below = 1;
        for (int r = 0; r < crew.count; r++) {
            below *= 100;
        }
        long above = 0;
        for (int set = 0; set < 1 << crew.count; set++) {
            long weight = weightOf(set);
            if (weight != 0) {
                trip.gather(set);
                above += weight * (what == 0 ? trip.cost() : trip.steps() == 0 ? 1 : 0);
            }
        }
        return inLowestTerms(above, below, part);
    }

    /** The COST if these two changed places, or the one told if they can't stand so. */
    private int costOfChanging(int a, int b, int ifNot) {
        int[] place = trip.crew.place;
        place[a] = crew.place[b];
        place[b] = crew.place[a];
        int then = ifNot;
        if (trip.crew.allCanStand()) {
            trip.settle();
            then = trip.cost();
        }
        place[a] = crew.place[a];
        place[b] = crew.place[b];
        return then;
    }

    private int whoShouldWalk() {
        int walker = NONE;
        int least = 0;
        int all = (1 << crew.count) - 1;
        for (int r = 0; r < crew.count; r++) {
            trip.gather(all & ~(1 << r));
            int then = trip.cost();
            if (walker == NONE || then < least) {
                walker = r;
                least = then;
            }
        }
        return walker;
    }

    private long weightOf(int set) {
        long weight = 1;
        for (int r = 0; r < crew.count; r++) {
            weight *= (set >> r & 1) != 0 ? crew.chance[r] : 100 - crew.chance[r];
        }
        return weight;
    }

    private static long inLowestTerms(long above, long below, int part) {
        long a = above;
        long b = below;
        // Euclid needs far fewer rounds than this for any two longs
        for (int n = 0; n < 200 && b != 0; n++) {
            long rest = a % b;
            a = b;
            b = rest;
        }
        long whole = part == 0 ? above : below;
        return a == 0 ? whole : whole / a;
    }

    // ---- landings that were seen

    public int landings(int sheet) {
        if (!isSheet(sheet)) {
            return BAD;
        }
        int refusal = refusalToRead(sheets[sheet]);
        if (refusal != 0) {
            return refusal;
        }
        setOut();
        return firstUnlike(sheets[sheet]);
    }

    public int seen(int sheet, int rider, int what) {
        if (!isSheet(sheet) || !crew.has(rider) || what < 0 || what > 2) {
            return BAD;
        }
        int refusal = refusalToRead(sheets[sheet]);
        if (refusal != 0) {
            return refusal;
        }
        setOut();
        if (what == 0) {
            return whichFit(sheets[sheet], trip.crew.to, rider, crew.from[rider] + 1, FLOORS - 1);
        }
        if (what == 1) {
            return whichFit(sheets[sheet], trip.crew.place, rider, 0, PLACES - 1);
        }
        return whichFit(sheets[sheet], trip.crew.kind, rider, 0, KINDS - 1);
    }

    public int film(int sheet, int n) {
        if (!isSheet(sheet) || n < 0 || n > FLOORS) {
            return BAD;
        }
        setOut();
        sheets[sheet].become(BYTES, n);
        for (int floor = 0; floor < n; floor++) {
            sheets[sheet].items[floor] = trip.whoStepsOut(floor);
        }
        return n;
    }

    public int drawn(int seed) {
        setOut();
        return costOfDrawn(seed);
    }

    public long chance(int seed, int n, int part) {
        if (n < 1 || n > MOST_SEEDS || part < 0 || part > 1) {
            return NO;
        }
        setOut();
        int now = trip.cost();
        int good = 0;
        for (int k = 0; k < n; k++) {
            if (costOfDrawn(seed + k) <= now) {
                good++;
            }
        }
        return inLowestTerms(good, n, part);
    }

    public int image() {
        kept.become(crew);
        hasImage = true;
        return kept.count;
    }

    public int back() {
        if (!hasImage) {
            return STATE;
        }
        crew.become(kept);
        return crew.count;
    }

    public int count(int what) {
        switch (what) {
            case 0: return crew.count;
            case 1: return crew.doors;
            case 2: return textCount;
            case 3: return reader.length;
            case 4: return crew.rule;
            default: return BAD;
        }
    }

    private static int refusalToRead(Sheet row) {
        if (row.isMissing()) {
            return MISSING;
        }
        return row.length > FLOORS ? BAD : 0;
    }

    private int firstUnlike(Sheet row) {
        for (int floor = 0; floor < row.length && floor < FLOORS; floor++) {
            if (row.items[floor] != trip.whoStepsOut(floor)) {
                return floor;
            }
        }
        return NONE;
    }

    /** Which numbers, put in that rider's place of a row of the tried crew, give what the sheet tells (bits). */
    private int whichFit(Sheet seen, int[] row, int rider, int least, int most) {
        int bits = 0;
        for (int v = least; v <= most; v++) {
            row[rider] = v;
            if (trip.crew.canStand(rider, crew.count)) {
                trip.gather((1 << crew.count) - 1);
                if (firstUnlike(seen) == NONE) {
                    bits |= 1 << v;
                }
            }
        }
        return bits;
    }

    private int costOfDrawn(int seed) {
        int z = seed;
        Crew tried = trip.crew;
        for (int r = 0; r < crew.count; r++) {
            z = z * 1103515245 + 12345;
            int first = (z >>> 9) % PLACES;
            tried.place[r] = first;
            for (int k = 1; k < PLACES && !tried.canStand(r, r); k++) {
                tried.place[r] = (first + k) % PLACES;
            }
        }
        trip.settle();
        return trip.cost();
    }

    // ---- the host

    public int sheet(int sheet, int sort, int n) {
        if (!isSheet(sheet) || sort < NONE || sort >= SORTS) {
            return BAD;
        }
        if (sort == NONE) {
            sheets[sheet].become(NONE, 0);
            return 1;
        }
        if (n > MOST_CELLS) {
            return BAD;
        }
        if (n < 0) {
            return TOO_SMALL;
        }
        sheets[sheet].become(sort, n);
        return 1;
    }

    public int cell(int sheet, int i, int v) {
        if (!isSheet(sheet)) {
            return BAD;
        }
        Sheet row = sheets[sheet];
        if (row.isMissing()) {
            return MISSING;
        }
        if (i < 0 || i >= row.length) {
            return OUTSIDE;
        }
        row.items[i] = row.narrowed(v);
        return 1;
    }

    public int copy(int sheet, int i, int other, int j, int n) {
        if (!isSheet(sheet) || !isSheet(other)) {
            return BAD;
        }
        Sheet source = sheets[sheet];
        Sheet goal = sheets[other];
        if (source.isMissing() || goal.isMissing()) {
            return MISSING;
        }
        if (source.sort != goal.sort) {
            return UNLIKE;
        }
        if (!source.holds(i, n) || !goal.holds(j, n)) {
            return OUTSIDE;
        }
        System.arraycopy(source.items, i, goal.items, j, n);
        return n;
    }

    public int riders(int sheet, int sort, int from, int n) {
        if (!isSheet(sheet) || sort < 0 || sort >= SORTS || n < 0 || n > MOST_RIDERS) {
            return BAD;
        }
        Sheet row = sheets[sheet];
        if (row.isMissing()) {
            return MISSING;
        }
        if (row.sort != sort) {
            return UNLIKE;
        }
        int came = 0;
        for (int k = 0; k < n; k++) {
            // a place below 0 is outside for the first one already, so this sum can't wrap unseen
            int at = from + 3 * k;
            if (!row.holds(at, 3)) {
                return OUTSIDE;
            }
            if (comeIn(row.items[at], row.items[at + 1], row.items[at + 2]) >= 0) {
                came++;
            }
        }
        return came;
    }

    public int taken(int rider, int k) {
        if (k < 0 || k >= KINDS) {
            return BAD;
        }
        if (!crew.has(rider)) {
            return MISSING;
        }
        return isUnder(crew.kind[rider], k) ? crew.number[rider] : UNLIKE;
    }

    private static boolean isSheet(int sheet) {
        return sheet >= 0 && sheet < SHEETS;
    }

    private static boolean isUnder(int kind, int k) {
        int at = kind;
        for (int n = 0; n < KINDS && at >= 0 && at < KINDS; n++) {
            if (at == k) {
                return true;
            }
            at = ABOVE[at];
        }
        return false;
    }

    /** All that an image keeps, and KIND and FROM: one is true, one the image, one tried, one asked about. */
    private static final class Crew {
        final int[] kind = new int[MOST_RIDERS];
        final int[] number = new int[MOST_RIDERS];
        final int[] size = new int[MOST_RIDERS];
        final int[] from = new int[MOST_RIDERS];
        final int[] to = new int[MOST_RIDERS];
        final int[] place = new int[MOST_RIDERS];
        final int[] chance = new int[MOST_RIDERS];
        int count;
        int doors = 1;
        int rule;

        void become(Crew other) {
            for (int what = 0; what <= FROM; what++) {
                System.arraycopy(other.rowOf(what), 0, rowOf(what), 0, MOST_RIDERS);
            }
            count = other.count;
            doors = other.doors;
            rule = other.rule;
        }

        boolean isLike(Crew other) {
            if (count != other.count || doors != other.doors || rule != other.rule) {
                return false;
            }
            for (int what = 0; what <= FROM; what++) {
                for (int r = 0; r < count && r < MOST_RIDERS; r++) {
                    if (rowOf(what)[r] != other.rowOf(what)[r]) {
                        return false;
                    }
                }
            }
            return true;
        }

        /** By the numbers of told(). */
        int[] rowOf(int what) {
            switch (what) {
                case NUMBER: return number;
                case SIZE: return size;
                case TO: return to;
                case PLACE: return place;
                case CHANCE: return chance;
                case FROM: return from;
                default: return kind;
            }
        }

        boolean has(int r) {
            return r >= 0 && r < count && r < MOST_RIDERS;
        }

        /** Whether one can stand where it stands with all others whose numbers are below n. */
        boolean canStand(int r, int n) {
            for (int o = 0; o < n && o < MOST_RIDERS; o++) {
                if (o != r && place[o] == place[r] && from[o] < to[r] && from[r] < to[o]) {
                    return false;
                }
            }
            return true;
        }

        boolean allCanStand() {
            for (int r = 0; r < count; r++) {
                if (!canStand(r, r)) {
                    return false;
                }
            }
            return true;
        }

        /** LETS. */
        boolean letsBy(int r, int z) {
            switch (kind[r]) {
                case SLIM: return z < number[r];
                case POLITE: return place[r] >> 1 == 0 || z < number[r];
                case SMALL: return z + size[r] < 10 || z < number[r];
                default: return false;
            }
        }

        /** COSTS. */
        int costToStepOut(int r, int v) {
            switch (kind[r]) {
                case LADEN: return 2 * v;
                case POLITE: return Math.max(0, v - 1);
                case PRAM: return 2 * v + size[r];
                case SMALL: return v / 2;
                default: return v;
            }
        }
    }

    /** A text's expressions with each sign behind its operands: a stack of numbers is all that reckoning needs. */
    private static final class Text {
        static final int NAMES = 6;
        /** The names' codes go down from here to just above those of the signs. */
        static final int FIRST_NAME = -1;
        static final int OR = -7, AND = -8, LESS = -9, SAME = -10, PLUS = -11, MINUS = -12, TIMES = -13;
        static final int NOT = -14, NEGATIVE = -15;
        /** Around each open sign five operands wait at most: of or, and, < or =, + or -, and *. */
        static final int MOST_WAITING = 5 * (MOST_OPEN + 1) + 1;

        private final int[] code;
        private final int[] ends;

        Text(int[] code, int[] ends) {
            this.code = code;
            this.ends = ends;
        }

        int worth(int part, int[] names, int[] stack) {
            int top = -1;
            for (int i = part == 0 ? 0 : ends[part - 1]; i < ends[part]; i++) {
                int c = code[i];
                if (c > OR) {
                    top++;
                } else if (c > NOT) {
                    top--;
                }
                if (top < 0 || top + 1 >= stack.length) {
                    return 0;
                }
                int a = stack[top];
                int b = stack[top + 1];
                switch (c) {
                    case OR: stack[top] = a != 0 || b != 0 ? 1 : 0; break;
                    case AND: stack[top] = a != 0 && b != 0 ? 1 : 0; break;
                    case LESS: stack[top] = a < b ? 1 : 0; break;
                    case SAME: stack[top] = a == b ? 1 : 0; break;
                    case PLUS: stack[top] = a + b; break;
                    case MINUS: stack[top] = a - b; break;
                    case TIMES: stack[top] = a * b; break;
                    case NOT: stack[top] = a == 0 ? 1 : 0; break;
                    case NEGATIVE: stack[top] = -a; break;
                    default: stack[top] = c >= 0 ? c : names[FIRST_NAME - c];
                }
            }
            return top == 0 ? stack[0] : 0;
        }
    }

    /** The tape and what reads it. Whatever fails leaves the token that can't stand there as the present one. */
    private static final class Reader {
        static final int END = 0, WRONG = 1, DIGITS = 2, NAME = 3, FIRST_KEY = 4, OR = 7, AND = 8, NOT = 9;
        static final int ORS = 0, ANDS = 1, SUMS = 2, PRODUCTS = 3;
        static final int MOST_DIGITS = 4, KNOWN_WORDS = 12;

        final int[] tape = new int[MOST_BYTES];
        int length;
        int tokenAt;
        private int next;
        /** One of the numbers above, or the sign itself. */
        private int token;
        private int value;
        private final int[] code = new int[MOST_BYTES];
        private int codeLength;
        private final int[] ends = new int[PARTS];

        boolean reads() {
            next = 0;
            codeLength = 0;
            step();
            for (int part = 0; part < PARTS; part++) {
                if (!passes(FIRST_KEY + part) || !chain(ORS, 0) || !passes(';')) {
                    return false;
                }
                ends[part] = codeLength;
            }
            return token == END;
        }

        Text whatWasRead() {
            return new Text(Arrays.copyOf(code, codeLength), Arrays.copyOf(ends, PARTS));
        }

        /** What one level's signs join: of or AND, of and NOT, of + and - TERM, of * ONE. */
        private boolean chain(int level, int open) {
            int join = 0;
            for (int n = 0; n < MOST_BYTES; n++) {
                boolean right = level == ANDS ? perhapsNot(open)
                    : level == PRODUCTS ? single(open) : chain(level + 1, open);
                if (!right || n > 0 && !put(join)) {
                    return false;
                }
                if (levelOf(token) != level) {
                    return true;
                }
                join = codeOf(token);
                step();
            }
            return false;
        }

        private boolean perhapsNot(int open) {
            if (token == NOT) {
                if (open >= MOST_OPEN) {
                    return false;
                }
                step();
                return perhapsNot(open + 1) && put(Text.NOT);
            }
            if (!chain(SUMS, open)) {
                return false;
            }
            if (token != '<' && token != '=') {
                return true;
            }
            int join = codeOf(token);
            step();
            return chain(SUMS, open) && put(join);
        }

        private boolean single(int open) {
            if (token == DIGITS || token == NAME) {
                int c = token == DIGITS ? value : Text.FIRST_NAME - value;
                step();
                return put(c);
            }
            if (token != '-' && token != '(' || open >= MOST_OPEN) {
                return false;
            }
            boolean negative = token == '-';
            step();
            if (negative) {
                return single(open + 1) && put(Text.NEGATIVE);
            }
            if (!chain(ORS, open + 1) || token != ')') {
                return false;
            }
            step();
            return true;
        }

        private boolean passes(int wanted) {
            if (token != wanted) {
                return false;
            }
            step();
            return true;
        }

        /** Each token is put once at most, so the code has room for all of a tape. */
        private boolean put(int c) {
            if (codeLength >= MOST_BYTES) {
                return false;
            }
            code[codeLength] = c;
            codeLength++;
            return true;
        }

        private static int levelOf(int token) {
            switch (token) {
                case OR: return ORS;
                case AND: return ANDS;
                case '+': case '-': return SUMS;
                case '*': return PRODUCTS;
                default: return NONE;
            }
        }

        private static int codeOf(int token) {
            switch (token) {
                case OR: return Text.OR;
                case AND: return Text.AND;
                case '<': return Text.LESS;
                case '=': return Text.SAME;
                case '+': return Text.PLUS;
                case '-': return Text.MINUS;
                default: return Text.TIMES;
            }
        }

        private void step() {
            while (next < length && (tape[next] == ' ' || tape[next] == '\n')) {
                next++;
            }
            tokenAt = next;
            if (next >= length) {
                token = END;
                return;
            }
            int first = tape[next];
            if (first >= 'a' && first <= 'z') {
                stepOverWord();
            } else if (first >= '0' && first <= '9') {
                stepOverDigits();
            } else {
                next++;
                token = isSign(first) ? first : WRONG;
            }
        }

        private void stepOverDigits() {
            value = 0;
            while (next < length && tape[next] >= '0' && tape[next] <= '9') {
                value = value * 10 + tape[next] - '0';
                next++;
            }
            token = next - tokenAt > MOST_DIGITS ? WRONG : DIGITS;
        }

        private void stepOverWord() {
            while (next < length && tape[next] >= 'a' && tape[next] <= 'z') {
                next++;
            }
            token = WRONG;
            for (int w = 0; w < KNOWN_WORDS; w++) {
                if (isWord(knownWord(w))) {
                    token = w < Text.NAMES ? NAME : FIRST_KEY + w - Text.NAMES;
                    value = w;
                }
            }
        }

        private boolean isWord(String word) {
            if (word.length() != next - tokenAt) {
                return false;
            }
            for (int i = 0; i < word.length() && tokenAt + i < length; i++) {
                if (word.charAt(i) != tape[tokenAt + i]) {
                    return false;
                }
            }
            return true;
        }

        /** The names as a trip numbers them, then the keys as the tokens are numbered. */
        private static String knownWord(int w) {
            switch (w) {
                case 0: return "rider";
                case 1: return "floor";
                case 2: return "size";
                case 3: return "row";
                case 4: return "number";
                case 5: return "inside";
                case 6: return "steps";
                case 7: return "late";
                case 8: return "moves";
                case 9: return "or";
                case 10: return "and";
                default: return "not";
            }
        }

        private static boolean isSign(int b) {
            switch (b) {
                case '(': case ')': case ';': case '+': case '-': case '*': case '<': case '=': return true;
                default: return false;
            }
        }
    }

    /** One row of numbers; its room is made once, so that no call makes more. */
    private static final class Sheet {
        final int[] items = new int[MOST_CELLS];
        int length;
        int sort = NONE;

        boolean isMissing() {
            return sort == NONE;
        }

        void become(int newSort, int n) {
            sort = newSort;
            length = n;
            Arrays.fill(items, 0);
        }

        int narrowed(int v) {
            if (sort == BYTES) {
                return (byte) v;
            }
            return sort == SHORTS ? (short) v : v;
        }

        boolean holds(int at, int n) {
            return at >= 0 && n >= 0 && at <= length && n <= length - at;
        }
    }

    /** The ride of a tried crew, which may stand, go or be otherwise than the true one. */
    private static final class Trip {
        private static final int UNKNOWN = -1, NO_LIMIT = 2147483647;

        final Crew crew = new Crew();
        private Text rule;
        /** By floors, who is so there (bits). */
        private final int[] staying = new int[FLOORS];
        private final int[] gettingOut = new int[FLOORS];
        private final int[] gettingIn = new int[FLOORS];
        /** By riders, who is in their way and doesn't let them by, at the door and at the second one (bits). */
        private final int[] ahead = new int[MOST_RIDERS];
        private final int[] behind = new int[MOST_RIDERS];
        /** What the rule told since the last gathering: a search asks the same thing thousands of times. */
        private final int[] prices = new int[PARTS * MOST_RIDERS * FLOORS * ROWS];
        private final int[] names = new int[Text.NAMES];
        /** One more, since what stands above the top is looked at too. */
        private final int[] stack = new int[Text.MOST_WAITING + 1];

        void start(Crew truth, Text itsRule) {
            crew.become(truth);
            rule = itsRule;
            gather((1 << crew.count) - 1);
        }

        /** Just these ride; to be called again when TO or KIND of any has changed. */
        void gather(int present) {
            Arrays.fill(prices, UNKNOWN);
            for (int floor = 0; floor < FLOORS; floor++) {
                staying[floor] = 0;
                gettingOut[floor] = 0;
                gettingIn[floor] = 0;
                for (int r = 0; r < crew.count; r++) {
                    int bit = present & 1 << r;
                    if (floor == crew.from[r]) {
                        gettingIn[floor] |= bit;
                    } else if (floor == crew.to[r]) {
                        gettingOut[floor] |= bit;
                    } else if (floor > crew.from[r] && floor < crew.to[r]) {
                        staying[floor] |= bit;
                    }
                }
            }
            settle();
        }

        /** To be called when any place has changed. */
        void settle() {
            for (int r = 0; r < crew.count; r++) {
                meet(r);
            }
        }

        /** Settles one with those of lesser numbers alone. */
        void meet(int r) {
            ahead[r] = 0;
            behind[r] = 0;
            for (int o = 0; o < r; o++) {
                ahead[o] &= ~(1 << r);
                behind[o] &= ~(1 << r);
                if ((crew.place[o] & 1) != (crew.place[r] & 1) || crew.place[o] == crew.place[r]) {
                    continue;
                }
                // on one side the lesser place is the one nearer to the door
                boolean inFront = crew.place[o] < crew.place[r];
                if (!crew.letsBy(o, crew.size[r])) {
                    (inFront ? ahead : behind)[r] |= 1 << o;
                }
                if (!crew.letsBy(r, crew.size[o])) {
                    (inFront ? behind : ahead)[o] |= 1 << r;
                }
            }
        }

        int whoStepsOut(int floor) {
            int out = 0;
            int inside = staying[floor];
            if (inside == 0 && gettingIn[floor] == 0) {
                return 0;
            }
            for (int r = 0; r < crew.count; r++) {
                if ((gettingOut[floor] >> r & 1) != 0) {
                    out |= whoMakesWay(r, staying[floor]);
                } else if ((gettingIn[floor] >> r & 1) != 0) {
                    out |= whoMakesWay(r, inside);
                    inside |= 1 << r;
                }
            }
            return out;
        }

        private int whoMakesWay(int r, int inside) {
            int atDoor = ahead[r] & inside;
            if (crew.doors != 2) {
                return atDoor;
            }
            int atSecond = behind[r] & inside;
            return Integer.bitCount(atSecond) < Integer.bitCount(atDoor) ? atSecond : atDoor;
        }

        int whoGoesOn(int floor) {
            return staying[floor] | gettingIn[floor];
        }

        int costAt(int floor, int out) {
            if (out == 0) {
                return 0;
            }
            int inside = Integer.bitCount(staying[floor] | gettingOut[floor]);
            int cost = 0;
            for (int r = 0; r < crew.count; r++) {
                if ((out >> r & 1) != 0) {
                    cost += crew.costToStepOut(r, price(STEPS, r, floor, inside));
                } else if ((staying[floor] >> r & 1) != 0) {
                    cost += price(LATE, r, floor, inside);
                }
            }
            return cost;
        }

        int cost() {
            return costBelow(NO_LIMIT);
        }

        /** The cost, or, if it reaches the limit, some number that does so too. */
        int costBelow(int limit) {
            int cost = 0;
            for (int floor = 0; floor < FLOORS && cost < limit; floor++) {
                cost += costAt(floor, whoStepsOut(floor));
            }
            return cost;
        }

        int steps() {
            int steps = 0;
            for (int floor = 0; floor < FLOORS; floor++) {
                steps += Integer.bitCount(whoStepsOut(floor));
            }
            return steps;
        }

        int floorsWithSteps() {
            int bits = 0;
            for (int floor = 0; floor < FLOORS; floor++) {
                if (whoStepsOut(floor) != 0) {
                    bits |= 1 << floor;
                }
            }
            return bits;
        }

        int costToMove(int r) {
            return price(MOVES, r, crew.from[r], 0);
        }

        private int price(int part, int r, int floor, int inside) {
            int row = crew.place[r] >> 1;
            int at = ((part * MOST_RIDERS + r) * FLOORS + floor) * ROWS + row;
            if (at < 0 || at >= prices.length || rule == null) {
                return 0;
            }
            if (prices[at] == UNKNOWN) {
                names[0] = r;
                names[1] = floor;
                names[2] = crew.size[r];
                names[3] = row;
                names[4] = crew.number[r];
                names[5] = inside;
                prices[at] = Math.max(0, Math.min(MOST_PRICE, rule.worth(part, names, stack)));
            }
            return prices[at];
        }
    }

    /** Looks for where all should stand, and keeps what it found for as long as nothing has changed. */
    private static final class Seeker {
        private final Crew asked = new Crew();
        private boolean hasFound;
        int least;
        final int[] best = new int[MOST_RIDERS];

        /** To be called with a trip that has just set out. */
        void find(Trip trip) {
            if (hasFound && asked.isLike(trip.crew)) {
                return;
            }
            asked.become(trip.crew);
            // standing as now is one of the ways, so nothing dearer is worth a look
            least = trip.cost() + 1;
            putFrom(trip, 0, 0);
            hasFound = true;
        }

        /** Tries all places for this rider and those of greater numbers. */
        private void putFrom(Trip trip, int r, int moves) {
            if (moves >= least) {
                return;
            }
            if (r >= asked.count || r >= MOST_RIDERS) {
                int total = moves + trip.costBelow(least - moves);
                if (total < least) {
                    least = total;
                    System.arraycopy(trip.crew.place, 0, best, 0, MOST_RIDERS);
                }
                return;
            }
            for (int p = 0; p < PLACES; p++) {
                trip.crew.place[r] = p;
                if (trip.crew.canStand(r, r)) {
                    trip.meet(r);
                    putFrom(trip, r + 1, moves + (p == asked.place[r] ? 0 : trip.costToMove(r)));
                }
            }
        }
    }
}
