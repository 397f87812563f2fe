/** A sugar town in which people are sticks of rock with a name through them. */
public final class RockName {
    public static final int NONE = -1, BAD = -2, NO = -3, FULL = -4;

    private static final int NOT_SO_MANY = -5;
    private static final int BAD_ROW = -10;
    private static final int BAD_STATUS = -1;

    /** PLAIN is 0. */
    private static final int WORN = 1, FORGED = 2, SPIRAL = 3, FOUNDLING = 4, DEEP = 5, KINDS = 6;
    private static final int LETTERS = 4;
    private static final int MOST_LETTERS = 5;
    private static final int NAMES_TO_FOUR = 340;
    private static final int INCHES = 9;
    private static final int WEARS = 10;
    /** So many sticks there may be, and so many notes. */
    private static final int MOST_ROWS = 6;
    private static final int MOST_UNDONE = 6;
    private static final int MOST_BYTES = 150;
    private static final int IMAGES = 2;
    private static final int COUNTS = 6;
    private static final int REASONS = 3;
    private static final int MOST_YEARS = 60;
    private static final int MOST_SEED = 999999;

    /** What is kept of a stick, by its number in of(i, what). */
    private static final int KIND = 0, NAME = 1, LENGTH = 2, WEAR = 3, FACTS = 4;
    /** What is kept of a note. */
    private static final int NOTED_STICK = 0, NOTED_INCH = 1, NOTED_WEAR = 2, NOTED_LETTERS = 3;

    private final Town now = new Town();
    private final Town[] images = new Town[IMAGES];
    private final TownText text = new TownText();
    private final RowSearch rows = new RowSearch();
    private final int[] refused = new int[REASONS];
    private final int[] wears = new int[MOST_ROWS];
    private final int[] byKinds = new int[KINDS];
    private long above = 0;
    private long below = 1;

    public RockName() {
    }

    // ---- a town

    public int town() {
        int were = now.sticks.size();
        now.empty();
        return were;
    }

    public int stick(int kind, int name, int inches) {
        if (!isBelow(kind, KINDS) || !Reading.isName(name) || !isWithin(inches, 1, INCHES)) {
            return refuseBad();
        }
        if (now.sticks.isFull()) {
            return refuseFull();
        }
        now.past.empty();
        return now.sticks.add(kind, name, inches, 0);
    }

    public int type(int c) {
        if (!isWithin(c, 0, 127)) {
            return refuseBad();
        }
        if (text.size() >= MOST_BYTES) {
            return refuseFull();
        }
        text.append(c);
        return text.size();
    }

    public int clear() {
        int had = text.size();
        text.empty();
        return had;
    }

    public int read() {
        int answer = text.tell();
        if (answer >= 0) {
            now.empty();
            now.sticks.copyFrom(text.draft);
        }
        return answer;
    }

    // ---- sticks

    public int suck(int i, int n) {
        if (!now.sticks.has(i) || !isWithin(n, 1, 9)) {
            return refuseBad();
        }
        now.past.keep(now.sticks);
        now.sticks.wearDown(i, n);
        return now.sticks.fact(i, WEAR);
    }

    public int snap(int i, int x) {
        if (!now.sticks.has(i) || !isWithin(x, 1, INCHES - 1)) {
            return refuseBad();
        }
        if (x >= now.sticks.fact(i, LENGTH)) {
            return refuseNo();
        }
        now.past.keep(now.sticks);
        now.sticks.put(i, LENGTH, x);
        return now.sticks.seenAt(i, x - 1);
    }

    public int lays(int a, int b) {
        if (!areTwo(a, b)) {
            return refuseBad();
        }
        now.past.keep(now.sticks);
        now.notes.empty();
        int left = Math.min(a, b);
        now.sticks.join(left, Math.max(a, b));
        return left;
    }

    public int undo() {
        if (now.past.size() == 0) {
            return refuseNo();
        }
        now.past.giveBack(now.sticks);
        return now.sticks.size();
    }

    public int of(int i, int what) {
        if (!now.sticks.has(i) || !isBelow(what, FACTS)) {
            return refuseBad();
        }
        return now.sticks.fact(i, what);
    }

    // ---- readings

    public int at(int i, int x, int what) {
        if (!now.sticks.has(i) || !isBelow(x, INCHES) || !isBelow(what, 2)) {
            return refuseBad();
        }
        int seen = now.sticks.seenAt(i, x);
        return what == 0 ? seen : now.sticks.seenAs(x, seen);
    }

    public int told(int what) {
        if (!isBelow(what, 2)) {
            return refuseBad();
        }
        int inch = 0;
        int most = 0;
        for (int x = 0; x < INCHES; x++) {
            int unlike = now.sticks.unlikeAt(x);
            if (unlike > most) {
                most = unlike;
                inch = x;
            }
        }
        return what == 0 ? inch : most;
    }

    public int sucks(int i, int x) {
        if (!now.sticks.has(i) || !isBelow(x, INCHES)) {
            return refuseBad();
        }
        int kind = now.sticks.fact(i, KIND);
        int name = now.sticks.fact(i, NAME);
        int wear = now.sticks.fact(i, WEAR);
        int seen = now.sticks.seenAt(i, x);
        for (int more = 1; more <= 9; more++) {
            if (Reading.byKind(kind, name, x, wear + more) != seen) {
                return more;
            }
        }
        return NONE;
    }

    public int breaks(int i, int what) {
        if (!now.sticks.has(i) || !isBelow(what, 2)) {
            return refuseBad();
        }
        int which = fewestBreaks(i);
        if (which == NONE) {
            return NONE;
        }
        return what == 0 ? Integer.bitCount(which) : which;
    }

    public int letters(int i) {
        if (!now.sticks.has(i)) {
            return refuseBad();
        }
        int sum = 0;
        int inches = now.sticks.fact(i, LENGTH);
        for (int x = 0; x < inches; x++) {
            sum += Reading.lettersIn(now.sticks.seenAt(i, x));
        }
        return sum;
    }

    public int row(int i) {
        if (i < NONE) {
            refuseBad();
            return BAD_ROW;
        }
        if (now.sticks.size() == 0) {
            return NONE;
        }
        if (i >= now.sticks.size()) {
            return NOT_SO_MANY;
        }
        rows.search(now.sticks);
        return i == NONE ? rows.fewest : rows.placed(i);
    }

    // ---- whose it was

    public int note(int i, int x, int w, int y) {
        boolean isTold = now.sticks.has(i) && isBelow(x, INCHES) && isBelow(w, WEARS);
        if (!isTold || !Reading.isReading(y)) {
            return refuseBad();
        }
        if (now.notes.isFull()) {
            return refuseFull();
        }
        now.notes.add(i, x, w, y);
        return now.notes.size();
    }

    public int forget() {
        int were = now.notes.size();
        now.notes.empty();
        return were;
    }

    public int is(int i) {
        return now.sticks.has(i) ? kindsThatFit(i) : refuseBad();
    }

    public int next(int i) {
        if (!now.sticks.has(i)) {
            return refuseBad();
        }
        int kinds = kindsThatFit(i);
        if (kinds == 0) {
            return NONE;
        }
        int inch = 0;
        int fewest = KINDS + 1;
        for (int x = 0; x < INCHES; x++) {
            int most = mostAlike(i, kinds, x);
            if (most < fewest) {
                fewest = most;
                inch = x;
            }
        }
        return inch;
    }

    public int names(int i, int what) {
        if (!now.sticks.has(i) || !isBelow(what, 2)) {
            return refuseBad();
        }
        int kind = now.sticks.fact(i, KIND);
        int many = 0;
        int least = NONE;
        for (int rank = 1; rank <= NAMES_TO_FOUR; rank++) {
            int name = Reading.nameOfRank(rank);
            if (now.notes.fit(i, kind, name)) {
                many++;
                least = least == NONE ? name : least;
            }
        }
        return what == 0 ? many : least;
    }

    public int whose(int x, int y) {
        if (!isBelow(x, INCHES) || !Reading.isReading(y)) {
            return refuseBad();
        }
        return now.sticks.seenAs(x, y);
    }

    public int court(int a, int b) {
        if (!areTwo(a, b)) {
            return refuseBad();
        }
        int alike = pairsAlike(a, b);
        int resting = 0;
        for (int pair = 0; pair < 4; pair++) {
            if (rests(alike, pair)) {
                resting |= 1 << pair;
            }
        }
        return resting;
    }

    public int rain(int i, int c) {
        if (!now.sticks.has(i) || !isWithin(c, 0, 10)) {
            return refuseBad();
        }
        above = now.sticks.fact(i, LENGTH) * (10 - c);
        below = 10;
        // 10 has no divisors but these two.
        if (above % 2 == 0) {
            above /= 2;
            below /= 2;
        }
        if (above % 5 == 0) {
            above /= 5;
            below /= 5;
        }
        return 1;
    }

    public int years(int seed, int n) {
        if (!isWithin(seed, 0, MOST_SEED) || !isWithin(n, 0, MOST_YEARS)) {
            return refuseBad();
        }
        for (int i = 0; i < MOST_ROWS; i++) {
            wears[i] = now.sticks.fact(i, WEAR);
        }
        long state = seed;
        int sum = 0;
        for (int year = 0; year < n; year++) {
            state = (state * 1103515245L + 12345L) % 2147483648L;
            int i = (int) (state / 65536L % 6L);
            int x = (int) (state / 1048576L % 9L);
            sum += lettersAfterYear(i, x);
        }
        return sum;
    }

    // ---- what there is

    public long part(int what) {
        if (!isBelow(what, 2)) {
            return refuseBad();
        }
        return what == 0 ? above : below;
    }

    public int image(int i) {
        if (!isBelow(i, IMAGES)) {
            return refuseBad();
        }
        Town kept = images[i];
        if (kept == null) {
            kept = new Town();
            images[i] = kept;
        }
        kept.copyFrom(now);
        return 1;
    }

    public int from(int i) {
        if (!isBelow(i, IMAGES)) {
            return refuseBad();
        }
        Town kept = images[i];
        if (kept == null) {
            return refuseNo();
        }
        now.copyFrom(kept);
        return 1;
    }

    public int status(int what) {
        if (!isBelow(what, REASONS)) {
            refuseBad();
            return BAD_STATUS;
        }
        return refused[what];
    }

    public int count(int what) {
        return isBelow(what, COUNTS) ? amount(what) : refuseBad();
    }

    public long digest() {
        long h = 1447;
        for (int what = 0; what < COUNTS; what++) {
            h = 31 * h + amount(what);
        }
        for (int i = 0; i < now.sticks.size(); i++) {
            for (int what = 0; what < FACTS; what++) {
                h = 31 * h + now.sticks.fact(i, what);
            }
        }
        for (int k = 0; k < now.notes.size(); k++) {
            for (int what = 0; what < FACTS; what++) {
                h = 31 * h + now.notes.fact(k, what);
            }
        }
        h = 31 * h + above;
        return 31 * h + below;
    }

    // ---- what the calls above lean on

    private static boolean isWithin(int value, int least, int most) {
        return value >= least && value <= most;
    }

    private static boolean isBelow(int value, int bound) {
        return value >= 0 && value < bound;
    }

    private int refuseBad() {
        refused[0]++;
        return BAD;
    }

    private int refuseNo() {
        refused[1]++;
        return NO;
    }

    private int refuseFull() {
        refused[2]++;
        return FULL;
    }

    private boolean areTwo(int a, int b) {
        return now.sticks.has(a) && now.sticks.has(b) && a != b;
    }

    private int amount(int what) {
        switch (what) {
            case 0:
                return now.sticks.size();
            case 1:
                return now.sticks.sumOf(LENGTH);
            case 2:
                return now.sticks.sumOf(WEAR);
            case 3:
                return now.notes.size();
            case 4:
                return now.past.size();
            default:
                return text.size();
        }
    }

    /** The inches, as bits, that tell a stick from every other kind; NONE, if not even all do. */
    private int fewestBreaks(int i) {
        for (int kind = 0; kind < KINDS; kind++) {
            byKinds[kind] = inchesThatTell(i, kind);
        }
        int own = now.sticks.fact(i, KIND);
        int best = NONE;
        int fewest = INCHES + 1;
        int bound = 1 << now.sticks.fact(i, LENGTH);
        for (int inches = 1; inches < bound; inches++) {
            int many = Integer.bitCount(inches);
            if (many < fewest && tellsAll(inches, own)) {
                fewest = many;
                best = inches;
            }
        }
        return best;
    }

    private int inchesThatTell(int i, int kind) {
        int bits = 0;
        int inches = now.sticks.fact(i, LENGTH);
        for (int x = 0; x < inches; x++) {
            if (now.sticks.seenAsKind(i, kind, x) != now.sticks.seenAt(i, x)) {
                bits |= 1 << x;
            }
        }
        return bits;
    }

    private boolean tellsAll(int inches, int own) {
        for (int kind = 0; kind < KINDS; kind++) {
            if (kind != own && (inches & byKinds[kind]) == 0) {
                return false;
            }
        }
        return true;
    }

    private int kindsThatFit(int i) {
        int bits = 0;
        int name = now.sticks.fact(i, NAME);
        for (int kind = 0; kind < KINDS; kind++) {
            if (now.notes.fit(i, kind, name)) {
                bits |= 1 << kind;
            }
        }
        return bits;
    }

    private int mostAlike(int i, int kinds, int x) {
        for (int kind = 0; kind < KINDS; kind++) {
            byKinds[kind] = now.sticks.seenAsKind(i, kind, x);
        }
        int most = 0;
        for (int kind = 0; kind < KINDS; kind++) {
            most = Math.max(most, kindsSeenAs(byKinds[kind], kinds));
        }
        return most;
    }

    private int kindsSeenAs(int y, int kinds) {
        int many = 0;
        for (int kind = 0; kind < KINDS; kind++) {
            if ((kinds & 1 << kind) != 0 && byKinds[kind] == y) {
                many++;
            }
        }
        return many;
    }

    /** The pairs, as bits, at which two are read alike; bit 0 of a pair: a shows inch 4, bit 1: b. */
    private int pairsAlike(int a, int b) {
        int bits = 0;
        for (int pair = 0; pair < 4; pair++) {
            int inchOfFirst = (pair & 1) * 4;
            int inchOfSecond = (pair >> 1) * 4;
            if (now.sticks.seenAt(a, inchOfFirst) == now.sticks.seenAt(b, inchOfSecond)) {
                bits |= 1 << pair;
            }
        }
        return bits;
    }

    private static boolean rests(int alike, int pair) {
        return gainOfFirst(alike, pair) >= gainOfFirst(alike, pair ^ 1)
            && gainOfSecond(alike, pair) >= gainOfSecond(alike, pair ^ 2);
    }

    private static int gainOfFirst(int alike, int pair) {
        return ((alike & 1 << pair) != 0 ? 2 : 0) - (pair & 1);
    }

    private static int gainOfSecond(int alike, int pair) {
        return ((alike & 1 << pair) != 0 ? 0 : 2) - (pair >> 1);
    }

    /** The years wear a copy down, so that nothing of the town is changed. */
    private int lettersAfterYear(int i, int x) {
        if (!now.sticks.has(i)) {
            return 0;
        }
        wears[i] = Math.min(wears[i] + 1, WEARS - 1);
        int kind = now.sticks.fact(i, KIND);
        int name = now.sticks.fact(i, NAME);
        return Reading.lettersIn(Reading.byKind(kind, name, x, wears[i]));
    }

    /** As what a name is read: letters are the figures of a number, no letters are 0. */
    private static final class Reading {
        static boolean isName(int n) {
            return lettersIn(n) >= 1 && lettersIn(n) <= MOST_LETTERS && hasLettersAlone(n);
        }

        static boolean isReading(int n) {
            return n == 0 || isName(n);
        }

        static boolean hasLettersAlone(int n) {
            for (int rest = n; rest > 0; rest /= 10) {
                if (rest % 10 < 1 || rest % 10 > LETTERS) {
                    return false;
                }
            }
            return true;
        }

        static int lettersIn(int n) {
            int many = 0;
            for (int rest = n; rest > 0; rest /= 10) {
                many++;
            }
            return many;
        }

        /** Names in rising order are the numbers from 1 on, by four, without a nought. */
        static int nameOfRank(int rank) {
            int name = 0;
            int place = 1;
            for (int rest = rank; rest > 0; rest = (rest - 1) / LETTERS) {
                name += ((rest - 1) % LETTERS + 1) * place;
                place *= 10;
            }
            return name;
        }

        static int byKind(int kind, int name, int x, int wear) {
            int plain = wear >= 5 ? withoutDoubles(name) : name;
            switch (kind) {
                case WORN:
                    return cut(plain, wear / 3);
                case FORGED:
                    return x == 0 ? turnedRound(plain) : plain;
                case SPIRAL:
                    return turned(plain, x);
                case FOUNDLING:
                    return x % 2 == 1 ? 0 : cut(plain, wear / 3);
                case DEEP:
                    return x >= 4 ? raised(turned(plain, x)) : turned(plain, x);
                default:
                    return plain;
            }
        }

        static int cut(int n, int many) {
            int left = n;
            for (int k = 0; k < many; k++) {
                left /= 10;
            }
            return left;
        }

        static int turned(int n, int many) {
            int turned = n;
            int first = placeOfFirst(n);
            for (int k = 0; k < many && first > 0; k++) {
                turned = turned % first * 10 + turned / first;
            }
            return turned;
        }

        static int withoutDoubles(int n) {
            int kept = 0;
            int place = 1;
            for (int rest = n; rest > 0; rest /= 10) {
                int letter = rest % 10;
                if (letter != rest / 10 % 10) {
                    kept += letter * place;
                    place *= 10;
                }
            }
            return kept;
        }

        static int turnedRound(int n) {
            int round = 0;
            for (int rest = n; rest > 0; rest /= 10) {
                round = round * 10 + rest % 10;
            }
            return round;
        }

        static int raised(int n) {
            int more = 0;
            int place = 1;
            for (int rest = n; rest > 0; rest /= 10) {
                more += (rest % 10 % LETTERS + 1) * place;
                place *= 10;
            }
            return more;
        }

        static int placeOfFirst(int n) {
            int place = 1;
            for (int rest = n / 10; rest > 0; rest /= 10) {
                place *= 10;
            }
            return place;
        }

        /** Brought to five figures, so that first stands with first; 0 where there is no letter. */
        static int padded(int n) {
            int wide = n;
            for (int many = lettersIn(n); many < MOST_LETTERS; many++) {
                wide *= 10;
            }
            return wide;
        }

        static int unlikePlaces(int a, int b) {
            int many = 0;
            int restOfA = padded(a);
            int restOfB = padded(b);
            for (int k = 0; k < MOST_LETTERS; k++) {
                if (restOfA % 10 != restOfB % 10) {
                    many++;
                }
                restOfA /= 10;
                restOfB /= 10;
            }
            return many;
        }

        static int together(int a, int b) {
            int both = 0;
            int place = 1;
            int restOfA = padded(a);
            int restOfB = padded(b);
            for (int k = 0; k < MOST_LETTERS; k++) {
                int letter = Math.max(restOfA % 10, restOfB % 10);
                // Places behind the longer name stay away, else they would be figures of it.
                if (letter > 0) {
                    both += letter * place;
                    place *= 10;
                }
                restOfA /= 10;
                restOfB /= 10;
            }
            return both;
        }
    }

    /** Up to six things of four facts each, as they came. */
    private abstract static class Rows {
        final int[] facts = new int[MOST_ROWS * FACTS];
        int size = 0;

        final int size() {
            return size;
        }

        final boolean isFull() {
            return size >= MOST_ROWS;
        }

        final boolean has(int i) {
            return i >= 0 && i < size;
        }

        final void empty() {
            size = 0;
        }

        final void copyFrom(Rows other) {
            System.arraycopy(other.facts, 0, facts, 0, facts.length);
            size = other.size;
        }

        final int fact(int i, int what) {
            return has(i) && isBelow(what, FACTS) ? facts[i * FACTS + what] : 0;
        }

        final void put(int i, int what, int value) {
            if (has(i) && isBelow(what, FACTS)) {
                facts[i * FACTS + what] = value;
            }
        }

        /** The facts in their order; the number of the row. */
        final int add(int first, int second, int third, int fourth) {
            if (isFull()) {
                return FULL;
            }
            int i = size;
            size++;
            put(i, 0, first);
            put(i, 1, second);
            put(i, 2, third);
            put(i, 3, fourth);
            return i;
        }
    }

    /** The sticks that there are. */
    private static final class Sticks extends Rows {
        void wearDown(int i, int n) {
            put(i, WEAR, Math.min(fact(i, WEAR) + n, WEARS - 1));
        }

        void join(int stays, int goes) {
            put(stays, NAME, Reading.together(fact(stays, NAME), fact(goes, NAME)));
            put(stays, WEAR, Math.max(fact(stays, WEAR), fact(goes, WEAR)));
            for (int i = goes; i < size - 1; i++) {
                for (int what = 0; what < FACTS; what++) {
                    put(i, what, fact(i + 1, what));
                }
            }
            size = Math.max(size - 1, 0);
        }

        int sumOf(int what) {
            int sum = 0;
            for (int i = 0; i < size; i++) {
                sum += fact(i, what);
            }
            return sum;
        }

        int seenAsKind(int i, int kind, int x) {
            return Reading.byKind(kind, fact(i, NAME), x, fact(i, WEAR));
        }

        int seenAt(int i, int x) {
            return Reading.byKind(fact(i, KIND), fact(i, NAME), x, fact(i, WEAR));
        }

        /** Those, as bits, that are read as y at an inch. */
        int seenAs(int x, int y) {
            int bits = 0;
            for (int i = 0; i < size; i++) {
                if (seenAt(i, x) == y) {
                    bits |= 1 << i;
                }
            }
            return bits;
        }

        /** Each reading counts once: at the first stick that is read so. */
        int unlikeAt(int x) {
            int many = 0;
            for (int i = 0; i < size; i++) {
                int earlier = (1 << i) - 1;
                if ((seenAs(x, seenAt(i, x)) & earlier) == 0) {
                    many++;
                }
            }
            return many;
        }
    }

    /** What was read of sticks. */
    private static final class Notes extends Rows {
        /** Whether all notes of a stick are so, were it of this kind and name. */
        boolean fit(int stick, int kind, int name) {
            for (int k = 0; k < size; k++) {
                if (fact(k, NOTED_STICK) == stick && !fits(k, kind, name)) {
                    return false;
                }
            }
            return true;
        }

        private boolean fits(int k, int kind, int name) {
            int seen = Reading.byKind(kind, name, fact(k, NOTED_INCH), fact(k, NOTED_WEAR));
            return seen == fact(k, NOTED_LETTERS);
        }
    }

    /** The sticks as they were ahead of each change that may be undone, the last one last. */
    private static final class Past {
        private static final int ROW = MOST_ROWS * FACTS;

        private final int[] facts = new int[MOST_UNDONE * ROW];
        private final int[] sizes = new int[MOST_UNDONE];
        private int depth = 0;

        int size() {
            return depth;
        }

        void empty() {
            depth = 0;
        }

        void copyFrom(Past other) {
            System.arraycopy(other.facts, 0, facts, 0, facts.length);
            System.arraycopy(other.sizes, 0, sizes, 0, sizes.length);
            depth = other.depth;
        }

        void keep(Sticks sticks) {
            if (depth >= MOST_UNDONE) {
                loseFirst();
            }
            System.arraycopy(sticks.facts, 0, facts, depth * ROW, ROW);
            sizes[depth] = sticks.size;
            depth++;
        }

        void giveBack(Sticks sticks) {
            if (depth > 0) {
                depth--;
                System.arraycopy(facts, depth * ROW, sticks.facts, 0, ROW);
                sticks.size = sizes[depth];
            }
        }

        private void loseFirst() {
            System.arraycopy(facts, ROW, facts, 0, facts.length - ROW);
            System.arraycopy(sizes, 1, sizes, 0, sizes.length - 1);
            depth = MOST_UNDONE - 1;
        }
    }

    /** All that an image keeps. */
    private static final class Town {
        final Sticks sticks = new Sticks();
        final Notes notes = new Notes();
        final Past past = new Past();

        void empty() {
            sticks.empty();
            notes.empty();
            past.empty();
        }

        void copyFrom(Town other) {
            sticks.copyFrom(other.sticks);
            notes.copyFrom(other.notes);
            past.copyFrom(other.past);
        }
    }

    /** The bytes by which a town is told, their tokens, and the sticks that these tell. */
    private static final class TownText {
        private static final int BLANK = 0, WORD = 1, FIGURES = 2, STOP = 3, STRANGE = 4;
        private static final int FAULT = -10;

        final Sticks draft = new Sticks();
        private final byte[] bytes = new byte[MOST_BYTES];
        private int size = 0;
        private final int[] sorts = new int[MOST_BYTES];
        private final int[] starts = new int[MOST_BYTES];
        private final int[] lengths = new int[MOST_BYTES];
        private int tokens = 0;
        /** The first token that does not stand yet. */
        private int cursor = 0;
        /** The last number that was taken. */
        private int value = 0;

        int size() {
            return size;
        }

        void empty() {
            size = 0;
        }

        void append(int c) {
            if (size < MOST_BYTES) {
                bytes[size] = (byte) c;
                size++;
            }
        }

        /** Makes the draft: how many items, or -10 less the fault. */
        int tell() {
            draft.empty();
            split();
            cursor = 0;
            boolean stands = takesWord("town") && takesStop();
            int items = 1;
            while (stands && cursor < tokens && items < MOST_BYTES) {
                stands = takesItem();
                items++;
            }
            return stands ? items : FAULT - startOf(cursor);
        }

        /** An end that comes too early is told by the text's length. */
        private int startOf(int k) {
            return isBelow(k, tokens) ? starts[k] : size;
        }

        private int byteAt(int place) {
            return isBelow(place, size) ? bytes[place] : NONE;
        }

        private void split() {
            tokens = 0;
            int ahead = BLANK;
            for (int place = 0; place < size; place++) {
                int sort = sortOf(bytes[place]);
                boolean goesOn = sort == ahead && (sort == WORD || sort == FIGURES);
                if (goesOn && tokens > 0) {
                    lengths[tokens - 1]++;
                } else if (sort != BLANK) {
                    begin(sort, place);
                }
                ahead = sort;
            }
        }

        private void begin(int sort, int place) {
            if (tokens < MOST_BYTES) {
                sorts[tokens] = sort;
                starts[tokens] = place;
                lengths[tokens] = 1;
                tokens++;
            }
        }

        private static int sortOf(int c) {
            if (isWithin(c, 'a', 'z')) {
                return WORD;
            }
            if (isWithin(c, '0', '9')) {
                return FIGURES;
            }
            if (c == ';') {
                return STOP;
            }
            return c == ' ' ? BLANK : STRANGE;
        }

        private boolean takesItem() {
            if (!draft.isFull() && takesWord("stick")) {
                return takesStick();
            }
            return takesWord("suck") && takesSuck();
        }

        private boolean takesStick() {
            if (!takesNumber(0, KINDS - 1)) {
                return false;
            }
            int kind = value;
            if (!takesNumber(1, INCHES)) {
                return false;
            }
            int inches = value;
            int name = 0;
            int many = 0;
            while (many < MOST_LETTERS && takesNumber(1, LETTERS)) {
                name = name * 10 + value;
                many++;
            }
            if (many == 0 || !takesStop()) {
                return false;
            }
            draft.add(kind, name, inches, 0);
            return true;
        }

        private boolean takesSuck() {
            if (!takesNumber(0, draft.size() - 1)) {
                return false;
            }
            int i = value;
            if (!takesNumber(1, 9) || !takesStop()) {
                return false;
            }
            draft.wearDown(i, value);
            return true;
        }

        private boolean takesWord(String word) {
            if (cursor >= tokens || lengths[cursor] != word.length()) {
                return false;
            }
            for (int k = 0; k < word.length(); k++) {
                if (byteAt(starts[cursor] + k) != word.charAt(k)) {
                    return false;
                }
            }
            cursor++;
            return true;
        }

        private boolean takesStop() {
            if (cursor >= tokens || sorts[cursor] != STOP) {
                return false;
            }
            cursor++;
            return true;
        }

        private boolean takesNumber(int least, int most) {
            if (cursor >= tokens || sorts[cursor] != FIGURES || lengths[cursor] > 2) {
                return false;
            }
            int number = byteAt(starts[cursor]) - '0';
            if (lengths[cursor] == 2) {
                number = number * 10 + byteAt(starts[cursor] + 1) - '0';
            }
            if (!isWithin(number, least, most)) {
                return false;
            }
            value = number;
            cursor++;
            return true;
        }
    }

    /** Tries the rows in rising order; a later one counts only if it has fewer unlike places. */
    private static final class RowSearch {
        private static final int MORE_THAN_ANY = 1000;

        private final int[] unlike = new int[MOST_ROWS * MOST_ROWS];
        private final int[] tried = new int[MOST_ROWS];
        private final int[] best = new int[MOST_ROWS];
        private int size = 0;
        int fewest = 0;

        void search(Sticks sticks) {
            size = sticks.size();
            for (int i = 0; i < size; i++) {
                for (int k = 0; k < size; k++) {
                    int places = Reading.unlikePlaces(sticks.seenAt(i, 0), sticks.seenAt(k, 0));
                    unlike[i * MOST_ROWS + k] = places;
                }
            }
            fewest = MORE_THAN_ANY;
            tryFrom(0, 0, 0);
        }

        int placed(int i) {
            return isBelow(i, size) ? best[i] : NONE;
        }

        private void tryFrom(int depth, int used, int sum) {
            if (sum >= fewest) {
                return;
            }
            if (depth >= size || depth >= MOST_ROWS) {
                fewest = sum;
                System.arraycopy(tried, 0, best, 0, tried.length);
                return;
            }
            for (int i = 0; i < size; i++) {
                if ((used >> i & 1) == 0) {
                    tried[depth] = i;
                    tryFrom(depth + 1, used | 1 << i, sum + unlikeAhead(depth, i));
                }
            }
        }

        private int unlikeAhead(int depth, int i) {
            return depth > 0 ? unlike[tried[depth - 1] * MOST_ROWS + i] : 0;
        }
    }
}
