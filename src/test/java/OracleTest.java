import java.util.ArrayList;
import java.util.HashMap;
import java.util.HashSet;
import java.util.List;
import java.util.Map;
import java.util.Random;
import java.util.Set;
import java.util.regex.Matcher;
import java.util.regex.Pattern;

/** Runs of calls by seeds, against a second telling of the document in texts and lists. */
public final class OracleTest {
    record Stick(int kind, String name, int inches, int wear) {
        String read(int x) {
            return readAs(kind, x, wear);
        }

        String readAs(int kind, int x, int wear) {
            return reading(kind, name, x, wear);
        }
    }

    record Note(int i, int x, int w, String y) {
    }

    record State(List<Stick> sticks, List<Note> notes, List<List<Stick>> past) {
    }

    static String reading(int kind, String name, int x, int wear) {
        if (kind == 1 || kind == 4) {
            String plain = reading(0, name, x, wear);
            String worn = plain.substring(0, Math.max(0, plain.length() - wear / 3));
            return kind == 4 && x % 2 == 1 ? "" : worn;
        }
        if (kind == 2) {
            String plain = reading(0, name, x, wear);
            return x == 0 ? new StringBuilder(plain).reverse().toString() : plain;
        }
        if (kind == 3) {
            String plain = reading(0, name, x, wear);
            int k = x % plain.length();
            return plain.substring(k) + plain.substring(0, k);
        }
        if (kind == 5) {
            String spiral = reading(3, name, x, wear);
            return x < 4 ? spiral
                : spiral.replace('4', '5').replace('3', '4').replace('2', '3').replace('1', '2').replace('5', '1');
        }
        return wear < 5 ? name : name.replaceAll("(.)\\1+", "$1");
    }

    static int number(String letters) {
        return letters.isEmpty() ? 0 : Integer.parseInt(letters);
    }

    static boolean isName(int n) {
        return Integer.toString(n).matches("[1-4]{1,5}");
    }

    static final List<String> NAMES_TO_FOUR = namesToFour();

    static List<String> namesToFour() {
        List<String> names = new ArrayList<>();
        for (int n = 4444; n >= 1; n--) {
            if (isName(n)) {
                names.add("" + n);
            }
        }
        return names;
    }

    /** The document told again: the answer of each call, by its name and numbers. */
    static final class Oracle {
        static final int BAD = -2, NO = -3, FULL = -4, NONE = -1;
        State now = new State(List.of(), List.of(), List.of());
        final State[] images = new State[2];
        String text = "";
        long above = 0;
        long below = 1;
        final int[] refused = new int[3];

        long refuse(int reason) {
            refused[-reason - 2]++;
            return reason;
        }

        boolean has(int i) {
            return i >= 0 && i < now.sticks.size();
        }

        void change(List<Stick> sticks, List<Note> notes) {
            List<List<Stick>> past = new ArrayList<>(now.past);
            past.add(now.sticks);
            if (past.size() > 6) {
                past.remove(0);
            }
            now = new State(sticks, notes, past);
        }

        List<Stick> with(int i, Stick s) {
            List<Stick> sticks = new ArrayList<>(now.sticks);
            sticks.set(i, s);
            return sticks;
        }

        long call(String name, int... a) {
            switch (name) {
                case "town": {
                    int were = now.sticks.size();
                    now = new State(List.of(), List.of(), List.of());
                    return were;
                }
                case "stick": return stick(a[0], a[1], a[2]);
                case "type": return type(a[0]);
                case "clear": {
                    int had = text.length();
                    text = "";
                    return had;
                }
                case "read": return read();
                case "suck": return suck(a[0], a[1]);
                case "snap": return snap(a[0], a[1]);
                case "lays": return lays(a[0], a[1]);
                case "undo": return undo();
                case "of": return of(a[0], a[1]);
                case "at": return at(a[0], a[1], a[2]);
                case "told": return told(a[0]);
                case "sucks": return sucks(a[0], a[1]);
                case "breaks": return breaks(a[0], a[1]);
                case "letters": return letters(a[0]);
                case "row": return row(a[0]);
                case "note": return note(a[0], a[1], a[2], a[3]);
                case "forget": {
                    int were = now.notes.size();
                    now = new State(now.sticks, List.of(), now.past);
                    return were;
                }
                case "is": return has(a[0]) ? bits(kinds(a[0])) : refuse(BAD);
                case "next": return next(a[0]);
                case "names": return names(a[0], a[1]);
                case "whose": return whose(a[0], a[1]);
                case "court": return court(a[0], a[1]);
                case "rain": return rain(a[0], a[1]);
                case "years": return years(a[0], a[1]);
                case "part": return a[0] == 0 ? above : a[0] == 1 ? below : refuse(BAD);
                case "image": return image(a[0]);
                case "from": return from(a[0]);
                case "status": return status(a[0]);
                case "count": return a[0] >= 0 && a[0] <= 5 ? count(a[0]) : refuse(BAD);
                case "digest": return digest();
                default: throw new IllegalArgumentException(name);
            }
        }

        long stick(int kind, int name, int inches) {
            if (kind < 0 || kind > 5 || !isName(name) || inches < 1 || inches > 9) {
                return refuse(BAD);
            }
            if (now.sticks.size() == 6) {
                return refuse(FULL);
            }
            List<Stick> sticks = new ArrayList<>(now.sticks);
            sticks.add(new Stick(kind, "" + name, inches, 0));
            now = new State(sticks, now.notes, List.of());
            return sticks.size() - 1;
        }

        long type(int c) {
            if (c < 0 || c > 127) {
                return refuse(BAD);
            }
            if (text.length() == 150) {
                return refuse(FULL);
            }
            text += (char) c;
            return text.length();
        }

        static final Pattern TOKEN = Pattern.compile("[a-z]+|[0-9]+|[^ ]", Pattern.DOTALL);

        /** Goes by a state for each thing that may come, as one machine over all tokens. */
        long read() {
            List<Stick> sticks = new ArrayList<>();
            Matcher m = TOKEN.matcher(text);
            String due = "town";
            int kind = 0, inches = 0, i = 0, n = 0, items = 0;
            String name = "";
            while (m.find()) {
                String token = m.group();
                int v = token.matches("[0-9]{1,2}") ? Integer.parseInt(token) : -1;
                boolean stop = token.equals(";");
                String then = null;
                switch (due) {
                    case "town": then = token.equals("town") ? "end" : null; break;
                    case "end": then = stop ? "item" : null; break;
                    case "item":
                        then = token.equals("stick") && sticks.size() < 6 ? "kind" : token.equals("suck") ? "i" : null;
                        break;
                    case "kind": kind = v; then = v >= 0 && v <= 5 ? "inches" : null; break;
                    case "inches": inches = v; name = ""; then = v >= 1 && v <= 9 ? "letter" : null; break;
                    case "letter":
                        if (v >= 1 && v <= 4 && name.length() < 5) {
                            name += v;
                            then = "letter";
                        } else if (stop && !name.isEmpty()) {
                            sticks.add(new Stick(kind, name, inches, 0));
                            then = "item";
                        }
                        break;
                    case "i": i = v; then = v >= 0 && v < sticks.size() ? "n" : null; break;
                    case "n": n = v; then = v >= 1 && v <= 9 ? "sucked" : null; break;
                    default:
                        if (stop) {
                            Stick s = sticks.get(i);
                            sticks.set(i, new Stick(s.kind, s.name, s.inches, Math.min(9, s.wear + n)));
                            then = "item";
                        }
                }
                if (then == null) {
                    return -10 - m.start();
                }
                items += stop ? 1 : 0;
                due = then;
            }
            if (!due.equals("item")) {
                return -10 - text.length();
            }
            now = new State(sticks, List.of(), List.of());
            return items;
        }

        long suck(int i, int n) {
            if (!has(i) || n < 1 || n > 9) {
                return refuse(BAD);
            }
            Stick s = now.sticks.get(i);
            int wear = Math.min(9, s.wear + n);
            change(with(i, new Stick(s.kind, s.name, s.inches, wear)), now.notes);
            return wear;
        }

        long snap(int i, int x) {
            if (!has(i) || x < 1 || x > 8) {
                return refuse(BAD);
            }
            Stick s = now.sticks.get(i);
            if (x > s.inches - 1) {
                return refuse(NO);
            }
            change(with(i, new Stick(s.kind, s.name, x, s.wear)), now.notes);
            return number(s.read(x - 1));
        }

        long lays(int a, int b) {
            if (!has(a) || !has(b) || a == b) {
                return refuse(BAD);
            }
            int low = Math.min(a, b);
            int high = Math.max(a, b);
            Stick s = now.sticks.get(low);
            Stick t = now.sticks.get(high);
            String name = "";
            for (int k = 0; k < Math.max(s.name.length(), t.name.length()); k++) {
                char c = k < s.name.length() ? s.name.charAt(k) : '0';
                char d = k < t.name.length() ? t.name.charAt(k) : '0';
                name += (char) Math.max(c, d);
            }
            List<Stick> sticks = with(low, new Stick(s.kind, name, s.inches, Math.max(s.wear, t.wear)));
            sticks.remove(high);
            change(sticks, List.of());
            return low;
        }

        long undo() {
            if (now.past.isEmpty()) {
                return refuse(NO);
            }
            List<List<Stick>> past = new ArrayList<>(now.past);
            List<Stick> sticks = past.remove(past.size() - 1);
            now = new State(sticks, now.notes, past);
            return sticks.size();
        }

        long of(int i, int what) {
            if (!has(i) || what < 0 || what > 3) {
                return refuse(BAD);
            }
            Stick s = now.sticks.get(i);
            return new int[] {s.kind, number(s.name), s.inches, s.wear}[what];
        }

        long at(int i, int x, int what) {
            if (!has(i) || x < 0 || x > 8 || what < 0 || what > 1) {
                return refuse(BAD);
            }
            String y = now.sticks.get(i).read(x);
            return what == 0 ? number(y) : bitsRead(x, y);
        }

        long bitsRead(int x, String y) {
            Set<Integer> alike = new HashSet<>();
            for (int k = 0; k < now.sticks.size(); k++) {
                if (now.sticks.get(k).read(x).equals(y)) {
                    alike.add(k);
                }
            }
            return bits(alike);
        }

        long bits(Set<Integer> numbers) {
            return numbers.stream().mapToInt(k -> 1 << k).sum();
        }

        long told(int what) {
            if (what < 0 || what > 1) {
                return refuse(BAD);
            }
            int[] many = new int[9];
            for (int x = 0; x < 9; x++) {
                Set<String> unlike = new HashSet<>();
                for (Stick s : now.sticks) {
                    unlike.add(s.read(x));
                }
                many[x] = unlike.size();
            }
            int best = 8;
            for (int x = 8; x >= 0; x--) {
                best = many[x] >= many[best] ? x : best;
            }
            return what == 0 ? best : many[best];
        }

        long sucks(int i, int x) {
            if (!has(i) || x < 0 || x > 8) {
                return refuse(BAD);
            }
            Stick s = now.sticks.get(i);
            for (int n = 1; n <= 9; n++) {
                if (!s.readAs(s.kind, x, s.wear + n).equals(s.read(x))) {
                    return n;
                }
            }
            return NONE;
        }

        long breaks(int i, int what) {
            if (!has(i) || what < 0 || what > 1) {
                return refuse(BAD);
            }
            Stick s = now.sticks.get(i);
            for (int size = 0; size <= s.inches; size++) {
                for (int set = 0; set < 1 << s.inches; set++) {
                    if (Integer.bitCount(set) == size && tells(s, set)) {
                        return what == 0 ? size : set;
                    }
                }
            }
            return NONE;
        }

        boolean tells(Stick s, int set) {
            for (int kind = 0; kind < 6; kind++) {
                boolean told = kind == s.kind;
                for (int x = 0; x < 9; x++) {
                    told |= (set >> x & 1) == 1 && !s.readAs(kind, x, s.wear).equals(s.read(x));
                }
                if (!told) {
                    return false;
                }
            }
            return true;
        }

        long letters(int i) {
            if (!has(i)) {
                return refuse(BAD);
            }
            Stick s = now.sticks.get(i);
            String all = "";
            for (int x = 0; x < s.inches; x++) {
                all += s.read(x);
            }
            return all.length();
        }

        long row(int i) {
            if (i < -1) {
                refuse(BAD);
                return -10;
            }
            if (now.sticks.isEmpty()) {
                return NONE;
            }
            if (i >= now.sticks.size()) {
                return -5;
            }
            List<List<Integer>> rows = new ArrayList<>();
            rowsFrom(new ArrayList<>(), rows);
            List<Integer> best = rows.get(0);
            for (List<Integer> row : rows) {
                best = unlikeIn(row) < unlikeIn(best) ? row : best;
            }
            return i == -1 ? unlikeIn(best) : best.get(i);
        }

        void rowsFrom(List<Integer> begun, List<List<Integer>> rows) {
            if (begun.size() == now.sticks.size()) {
                rows.add(new ArrayList<>(begun));
            }
            for (int k = 0; k < now.sticks.size(); k++) {
                if (!begun.contains(k)) {
                    begun.add(k);
                    rowsFrom(begun, rows);
                    begun.remove(begun.size() - 1);
                }
            }
        }

        int unlikeIn(List<Integer> row) {
            int sum = 0;
            for (int k = 1; k < row.size(); k++) {
                String a = now.sticks.get(row.get(k - 1)).read(0);
                String b = now.sticks.get(row.get(k)).read(0);
                int both = Math.min(a.length(), b.length());
                sum += Math.abs(a.length() - b.length());
                for (int p = 0; p < both; p++) {
                    sum += a.charAt(p) == b.charAt(p) ? 0 : 1;
                }
            }
            return sum;
        }

        long note(int i, int x, int w, int y) {
            if (!has(i) || x < 0 || x > 8 || w < 0 || w > 9 || y != 0 && !isName(y)) {
                return refuse(BAD);
            }
            if (now.notes.size() == 6) {
                return refuse(FULL);
            }
            List<Note> notes = new ArrayList<>(now.notes);
            notes.add(new Note(i, x, w, y == 0 ? "" : "" + y));
            now = new State(now.sticks, notes, now.past);
            return notes.size();
        }

        boolean fits(int i, int kind, String name) {
            return now.notes.stream().filter(n -> n.i == i)
                .allMatch(n -> reading(kind, name, n.x, n.w).equals(n.y));
        }

        Set<Integer> kinds(int i) {
            Set<Integer> kinds = new HashSet<>();
            for (int kind = 0; kind < 6; kind++) {
                if (fits(i, kind, now.sticks.get(i).name)) {
                    kinds.add(kind);
                }
            }
            return kinds;
        }

        long next(int i) {
            if (!has(i)) {
                return refuse(BAD);
            }
            Set<Integer> kinds = kinds(i);
            if (kinds.isEmpty()) {
                return NONE;
            }
            Stick s = now.sticks.get(i);
            int best = 8;
            int fewest = 99;
            for (int x = 8; x >= 0; x--) {
                Map<String, Integer> alike = new HashMap<>();
                for (int kind : kinds) {
                    alike.merge(s.readAs(kind, x, s.wear), 1, Integer::sum);
                }
                int most = alike.values().stream().max(Integer::compare).get();
                if (most <= fewest) {
                    fewest = most;
                    best = x;
                }
            }
            return best;
        }

        long names(int i, int what) {
            if (!has(i) || what < 0 || what > 1) {
                return refuse(BAD);
            }
            int many = 0;
            int least = NONE;
            for (String name : NAMES_TO_FOUR) {
                if (fits(i, now.sticks.get(i).kind, name)) {
                    many++;
                    least = least == NONE ? number(name) : Math.min(least, number(name));
                }
            }
            return what == 0 ? many : least;
        }

        long whose(int x, int y) {
            if (x < 0 || x > 8 || y != 0 && !isName(y)) {
                return refuse(BAD);
            }
            return bitsRead(x, y == 0 ? "" : "" + y);
        }

        long court(int a, int b) {
            if (!has(a) || !has(b) || a == b) {
                return refuse(BAD);
            }
            int resting = 0;
            for (int p = 0; p < 2; p++) {
                for (int q = 0; q < 2; q++) {
                    boolean rests = gains(a, b, p, q)[0] >= gains(a, b, 1 - p, q)[0]
                        && gains(a, b, p, q)[1] >= gains(a, b, p, 1 - q)[1];
                    resting += rests ? 1 << p + 2 * q : 0;
                }
            }
            return resting;
        }

        int[] gains(int a, int b, int p, int q) {
            boolean alike = now.sticks.get(a).read(4 * p).equals(now.sticks.get(b).read(4 * q));
            return alike ? new int[] {2 - p, -q} : new int[] {-p, 2 - q};
        }

        long rain(int i, int c) {
            if (!has(i) || c < 0 || c > 10) {
                return refuse(BAD);
            }
            above = now.sticks.get(i).inches * (10 - c);
            below = 10;
            for (int d = 10; d >= 2; d--) {
                if (above % d == 0 && below % d == 0) {
                    above /= d;
                    below /= d;
                }
            }
            return 1;
        }

        long years(int seed, int n) {
            if (seed < 0 || seed > 999999 || n < 0 || n > 60) {
                return refuse(BAD);
            }
            int[] wear = now.sticks.stream().mapToInt(Stick::wear).toArray();
            java.math.BigInteger x = java.math.BigInteger.valueOf(seed);
            int sum = 0;
            for (int k = 0; k < n; k++) {
                x = x.multiply(java.math.BigInteger.valueOf(1103515245)).add(java.math.BigInteger.valueOf(12345))
                    .mod(java.math.BigInteger.TWO.pow(31));
                int i = x.intValueExact() / 65536 % 6;
                int inch = x.intValueExact() / 1048576 % 9;
                if (has(i)) {
                    wear[i] = Math.min(9, wear[i] + 1);
                    Stick s = now.sticks.get(i);
                    sum += s.readAs(s.kind, inch, wear[i]).length();
                }
            }
            return sum;
        }

        long image(int i) {
            if (i < 0 || i > 1) {
                return refuse(BAD);
            }
            images[i] = now;
            return 1;
        }

        long from(int i) {
            if (i < 0 || i > 1) {
                return refuse(BAD);
            }
            if (images[i] == null) {
                return refuse(NO);
            }
            now = images[i];
            return 1;
        }

        long status(int what) {
            if (what < 0 || what > 2) {
                refuse(BAD);
                return -1;
            }
            return refused[what];
        }

        long count(int what) {
            return new int[] {now.sticks.size(), now.sticks.stream().mapToInt(Stick::inches).sum(),
                now.sticks.stream().mapToInt(Stick::wear).sum(), now.notes.size(), now.past.size(),
                text.length()}[what];
        }

        long digest() {
            List<Long> all = new ArrayList<>();
            for (int what = 0; what < 6; what++) {
                all.add(count(what));
            }
            for (Stick s : now.sticks) {
                all.addAll(List.of((long) s.kind, (long) number(s.name), (long) s.inches, (long) s.wear));
            }
            for (Note n : now.notes) {
                all.addAll(List.of((long) n.i, (long) n.x, (long) n.w, (long) number(n.y)));
            }
            all.addAll(List.of(above, below));
            long h = 1447;
            for (long v : all) {
                h = 31 * h + v;
            }
            return h;
        }
    }

    static long ask(RockName r, String name, int... a) {
        switch (name) {
            case "town": return r.town();
            case "stick": return r.stick(a[0], a[1], a[2]);
            case "type": return r.type(a[0]);
            case "clear": return r.clear();
            case "read": return r.read();
            case "suck": return r.suck(a[0], a[1]);
            case "snap": return r.snap(a[0], a[1]);
            case "lays": return r.lays(a[0], a[1]);
            case "undo": return r.undo();
            case "of": return r.of(a[0], a[1]);
            case "at": return r.at(a[0], a[1], a[2]);
            case "told": return r.told(a[0]);
            case "sucks": return r.sucks(a[0], a[1]);
            case "breaks": return r.breaks(a[0], a[1]);
            case "letters": return r.letters(a[0]);
            case "row": return r.row(a[0]);
            case "note": return r.note(a[0], a[1], a[2], a[3]);
            case "forget": return r.forget();
            case "is": return r.is(a[0]);
            case "next": return r.next(a[0]);
            case "names": return r.names(a[0], a[1]);
            case "whose": return r.whose(a[0], a[1]);
            case "court": return r.court(a[0], a[1]);
            case "rain": return r.rain(a[0], a[1]);
            case "years": return r.years(a[0], a[1]);
            case "part": return r.part(a[0]);
            case "image": return r.image(a[0]);
            case "from": return r.from(a[0]);
            case "status": return r.status(a[0]);
            case "count": return r.count(a[0]);
            case "digest": return r.digest();
            default: throw new IllegalArgumentException(name);
        }
    }

    static final String[] CALLS = {"town", "stick", "type", "clear", "read", "suck", "snap", "lays", "undo", "of",
        "at", "told", "sucks", "breaks", "letters", "row", "note", "forget", "is", "next", "names", "whose", "court",
        "rain", "years", "part", "image", "from", "status", "count", "digest"};
    /** How often each of the calls comes, so that towns live long enough to be asked much. */
    static final int[] OFTEN = {1, 14, 1, 1, 2, 20, 6, 4, 8, 6,
        20, 4, 8, 8, 4, 6, 14, 2, 8, 8, 6, 8, 8,
        4, 4, 3, 3, 4, 3, 4, 4};
    static final int[] WILD = {-1, -2, -10, 6, 9, 10, 11, 61, 128, 1000000, Integer.MAX_VALUE, Integer.MIN_VALUE};

    static final int RUNS = 2000;

    private final Random random;
    private final RockName rock = new RockName();
    private final Oracle oracle = new Oracle();
    private final List<String> calls = new ArrayList<>();

    OracleTest(long seed) {
        random = new Random(seed);
    }

    int below(int bound) {
        return random.nextInt(bound);
    }

    int wildOr(int value) {
        return below(40) == 0 ? WILD[below(WILD.length)] : value;
    }

    int stickNumber() {
        return wildOr(below(Math.max(1, oracle.now.sticks.size() + (below(12) == 0 ? 1 : 0))));
    }

    int name(int most) {
        int name = 0;
        int many = 1 + below(most);
        int letters = below(2) == 0 ? 2 : 4;
        for (int k = 0; k < many; k++) {
            name = name * 10 + 1 + below(letters);
        }
        return below(60) == 0 ? name + below(9) : name;
    }

    /** Often what a stick is truly read as, so that notes are not all idle. */
    int seen(int x, int wear) {
        if (oracle.now.sticks.isEmpty() || below(4) == 0) {
            return below(4) == 0 ? 0 : name(5);
        }
        Stick s = oracle.now.sticks.get(below(oracle.now.sticks.size()));
        int kind = below(3) == 0 ? below(6) : s.kind;
        return number(s.readAs(kind, Math.max(0, Math.min(8, x)), wear < 0 || wear > 9 ? s.wear : wear));
    }

    int[] numbers(String call) {
        int x = wildOr(below(9));
        int w = wildOr(below(10));
        switch (call) {
            case "stick": return new int[] {wildOr(below(6)), wildOr(name(5)), wildOr(1 + below(9))};
            case "type": return new int[] {below(8) == 0 ? below(300) - 80 : "town;stick 0123 suck".charAt(below(20))};
            case "suck": return new int[] {stickNumber(), wildOr(1 + below(below(3) == 0 ? 9 : 3))};
            case "snap": return new int[] {stickNumber(), wildOr(1 + below(8))};
            case "lays": case "court": return new int[] {stickNumber(), stickNumber()};
            case "of": return new int[] {stickNumber(), wildOr(below(4))};
            case "at": return new int[] {stickNumber(), x, wildOr(below(2))};
            case "told": case "part": case "image": case "from": return new int[] {wildOr(below(2))};
            case "sucks": return new int[] {stickNumber(), x};
            case "breaks": case "names": return new int[] {stickNumber(), wildOr(below(2))};
            case "letters": case "is": case "next": return new int[] {stickNumber()};
            case "row": return new int[] {wildOr(below(8) - 1)};
            case "note": return new int[] {stickNumber(), x, w, wildOr(seen(x, w))};
            case "whose": return new int[] {x, wildOr(seen(x, -1))};
            case "rain": return new int[] {stickNumber(), wildOr(below(11))};
            case "years": return new int[] {wildOr(below(1000000)), wildOr(below(61))};
            case "status": return new int[] {wildOr(below(3))};
            case "count": return new int[] {wildOr(below(6))};
            default: return new int[0];
        }
    }

    String someText() {
        StringBuilder text = new StringBuilder(below(12) == 0 ? "" : "town;");
        int items = below(9);
        for (int k = 0; k < items; k++) {
            if (below(3) > 0) {
                text.append("stick ").append(below(6)).append(' ').append(1 + below(9));
                int many = 1 + below(5);
                for (int p = 0; p < many; p++) {
                    text.append(below(6) == 0 ? " 0" : " ").append(1 + below(4));
                }
            } else {
                text.append("suck ").append(below(4)).append(' ').append(1 + below(9));
            }
            text.append(below(5) == 0 ? " ; " : ";");
        }
        if (below(2) == 0) {
            int place = below(text.length() + 1);
            String odd = "0123456789 ;;atownsickT-\t\u0000\u007f";
            int many = 1 + below(3);
            for (int k = 0; k < many; k++) {
                text.insert(place, odd.charAt(below(odd.length())));
            }
        }
        if (below(3) == 0) {
            text.setLength(below(text.length() + 1));
        }
        return text.substring(0, Math.min(155, text.length()));
    }

    boolean isAsDue(String call, int... a) {
        long want = oracle.call(call, a);
        long got = ask(rock, call, a);
        calls.add(call + java.util.Arrays.toString(a) + " " + got);
        if (got == want) {
            return true;
        }
        System.out.println(String.join("\n", calls) + "\n  the last answered " + got + ", due is " + want);
        return false;
    }

    boolean isTextAsDue() {
        boolean good = isAsDue("clear");
        for (char c : someText().toCharArray()) {
            good = good && isAsDue("type", c);
        }
        return good && isAsDue("read") && isAsDue("digest");
    }

    boolean isRunAsDue() {
        int sum = 0;
        for (int often : OFTEN) {
            sum += often;
        }
        if (below(3) == 0 && !isTextAsDue()) {
            return false;
        }
        while (calls.size() < 320) {
            int k = 0;
            for (int left = below(sum); left >= OFTEN[k]; k++) {
                left -= OFTEN[k];
            }
            if (CALLS[k].equals("read") && below(6) == 0 && !isTextAsDue()) {
                return false;
            }
            if (!isAsDue(CALLS[k], numbers(CALLS[k]))) {
                return false;
            }
        }
        for (int what = 0; what < 3; what++) {
            if (!isAsDue("status", what)) {
                return false;
            }
        }
        return isAsDue("digest");
    }

    public static void main(String[] args) {
        for (long seed = 1; seed <= RUNS; seed++) {
            if (!new OracleTest(seed).isRunAsDue()) {
                System.out.println("the run of seed " + seed + " is not as due");
                System.exit(1);
            }
        }
        System.out.println(RUNS + " runs are as due");
    }
}
