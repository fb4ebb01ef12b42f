import java.util.ArrayList;
import java.util.Arrays;
import java.util.List;
import java.util.Random;
import java.util.TreeSet;
import java.util.regex.Matcher;
import java.util.regex.Pattern;

/** Runs of calls on the class and on a second, slow writing of the document, whose answers must be alike. */
public final class ModelTests {
    private static final int NONE = -1, UNKNOWN = -1000000001, OUTSIDE = -1000000002, NOT = -1000000003, FULL = -1000000004;
    private static final int RUNS = 2000;
    private static final int CALLS = 300;

    private static final char END = 0xFFFF;

    private record Token(char type, String word, int at) { }

    private record Stair(int kind, int p, int q) { }

    private record Seen(int begin, int place, boolean was) { }

    private static final class Fault extends Exception {
        private static final long serialVersionUID = 1L;
        final int kind;
        final int at;

        Fault(int kind, int at) {
            super("fault");
            this.kind = kind;
            this.at = at;
        }
    }

    /** A person's strides stand in a set, the first one by itself. */
    private static final class Person {
        int place;
        final int first;
        final int second;

        Person(int place, int first, int second) {
            this.place = place;
            this.first = first;
            this.second = second;
        }

        Person copy() {
            return new Person(place, first, second);
        }

        int[] strides() {
            return second == 0 ? new int[] {first} : new int[] {first, second};
        }
    }

    private static final class Told {
        int places;
        final List<Stair> stairs = new ArrayList<>();
        final List<int[]> steps = new ArrayList<>();
        final List<Person> persons = new ArrayList<>();
    }

    private static final class Image {
        final List<Person> persons = new ArrayList<>();
        final List<int[]> steps = new ArrayList<>();
        int[] worn;
        int law;
        long seed;
    }

    private static final class Model {
        private static final List<String> KINDS = List.of("plain", "open", "leap");
        private final StringBuilder text = new StringBuilder();
        private Told told = new Told();
        private int faultAt = NONE;
        private int law;
        private long seed;
        private int[] worn = new int[10];
        private final List<Seen> seen = new ArrayList<>();
        private final List<int[]> book = new ArrayList<>();
        private final Image[] images = new Image[2];

        // ---- the text, by tokens

        private static List<Token> tokens(String s) {
            List<Token> list = new ArrayList<>();
            Matcher m = Pattern.compile("[a-z]+|[0-9]+|[^ ]", Pattern.DOTALL).matcher(s);
            while (m.find()) {
                char c = m.group().charAt(0);
                char type = c >= 'a' && c <= 'z' ? 'w' : c >= '0' && c <= '9' ? 'n' : c;
                list.add(new Token(type, m.group(), m.start()));
            }
            list.add(new Token(END, "", s.length()));
            return list;
        }

        private static int number(Token t, int least, int most) throws Fault {
            if (t.type != 'n') {
                throw new Fault(1, t.at);
            }
            if (t.word.length() > 3 || Integer.parseInt(t.word) < least || Integer.parseInt(t.word) > most) {
                throw new Fault(2, t.at);
            }
            return Integer.parseInt(t.word);
        }

        private static void need(Token t, char type) throws Fault {
            if (t.type != type) {
                throw new Fault(1, t.at);
            }
        }

        private static Told parse(String s) throws Fault {
            Told out = new Told();
            List<Token> list = tokens(s);
            int i = 0;
            while (list.get(i).type != END) {
                Token head = list.get(i++);
                need(head, 'w');
                if (head.word.equals("places") && i > 1) {
                    throw new Fault(3, head.at);
                } else if (head.word.equals("places")) {
                    out.places = number(list.get(i++), 1, 8);
                } else if (i == 1 || !head.word.equals("stair") && !head.word.equals("person")) {
                    throw new Fault(1, head.at);
                } else if (head.word.equals("stair")) {
                    i = parseStair(out, list, i);
                } else {
                    if (out.persons.size() == 8) {
                        throw new Fault(3, head.at);
                    }
                    int place = number(list.get(i++), 0, out.places - 1);
                    int first = number(list.get(i++), 1, 24);
                    int second = list.get(i).type == 'n' ? number(list.get(i++), 1, 24) : 0;
                    out.persons.add(new Person(place, first, second));
                }
                need(list.get(i++), ';');
            }
            return out;
        }

        private static int parseStair(Told out, List<Token> list, int i) throws Fault {
            if (out.stairs.size() == 10) {
                throw new Fault(3, list.get(i - 1).at);
            }
            Token kind = list.get(i++);
            if (!KINDS.contains(kind.word)) {
                throw new Fault(1, kind.at);
            }
            int p = number(list.get(i++), 0, out.places - 1);
            int q = number(list.get(i), 0, out.places - 1);
            if (p == q) {
                throw new Fault(4, list.get(i).at);
            }
            i++;
            List<Integer> parts = new ArrayList<>(List.of(number(list.get(i++), 1, 720)));
            while (list.get(i).type == ',' && parts.size() < 3) {
                parts.add(number(list.get(i + 1), 1, 720));
                i += 2;
            }
            out.stairs.add(new Stair(KINDS.indexOf(kind.word), p, q));
            out.steps.add(parts.stream().mapToInt(n -> n).toArray());
            return i;
        }

        // ---- what the terms mean

        private static boolean fits(int kind, int[] parts, int stride) {
            if (kind == 1) {
                return true;
            }
            if (kind == 2) {
                return stride == 1 || Arrays.stream(parts).allMatch(n -> n == stride);
            }
            return Arrays.stream(parts).allMatch(n -> n / stride * stride == n);
        }

        private boolean climbs(int r, int... strides) {
            return Arrays.stream(strides).anyMatch(s -> fits(told.stairs.get(r).kind, told.steps.get(r), s));
        }

        private boolean goes(int r, boolean up, int... strides) {
            return !up && law == 1 || climbs(r, strides);
        }

        private TreeSet<Integer> reach(int from, int... strides) {
            TreeSet<Integer> set = new TreeSet<>(List.of(from));
            List<Integer> queue = new ArrayList<>(set);
            while (!queue.isEmpty()) {
                int place = queue.remove(0);
                for (int r = 0; r < told.stairs.size(); r++) {
                    Stair s = told.stairs.get(r);
                    if (s.p == place && goes(r, true, strides) && set.add(s.q)) {
                        queue.add(s.q);
                    }
                    if (s.q == place && goes(r, false, strides) && set.add(s.p)) {
                        queue.add(s.p);
                    }
                }
            }
            return set;
        }

        private TreeSet<Integer> reachOf(Person p) {
            return reach(p.place, p.strides());
        }

        private static int bits(Iterable<Integer> set) {
            int sum = 0;
            for (int k : set) {
                sum |= 1 << k;
            }
            return sum;
        }

        private boolean move(Person p, int r, boolean wears) {
            Stair s = told.stairs.get(r);
            if (p.place != s.p && p.place != s.q || !goes(r, p.place == s.p, p.strides())) {
                return false;
            }
            if (wears) {
                int stride = Arrays.stream(p.strides()).filter(t -> climbs(r, t)).max().orElse(p.first);
                for (int n : told.steps.get(r)) {
                    worn[r] += n / stride + (n % stride == 0 ? 0 : 1);
                }
            }
            p.place = p.place == s.p ? s.q : s.p;
            return true;
        }

        private int draw(int n) {
            seed = (seed * 1103515245L + 12345L) % (1L << 31);
            return (int) (seed / 65536 % n);
        }

        private boolean place(int i) {
            return i >= 0 && i < told.places;
        }

        private boolean stairThere(int r) {
            return r >= 0 && r < told.stairs.size();
        }

        private boolean partThere(int r, int part) {
            return stairThere(r) && part >= 0 && part < told.steps.get(r).length;
        }

        private boolean personThere(int p) {
            return p >= 0 && p < told.persons.size();
        }

        private boolean personsThere(int set) {
            for (int k = told.persons.size(); k < 32; k++) {
                if ((set >>> k & 1) != 0) {
                    return false;
                }
            }
            return true;
        }

        private static boolean in(int v, int least, int most) {
            return v >= least && v <= most;
        }

        // ---- the calls

        int feed(int n, long bytes) {
            if (!in(n, 1, 8)) {
                return OUTSIDE;
            }
            if (text.length() + n > 500) {
                return FULL;
            }
            for (int i = n - 1; i >= 0; i--) {
                text.append((char) (bytes >>> 8 * i & 255));
            }
            return text.length();
        }

        int town() {
            String s = text.toString();
            text.setLength(0);
            try {
                told = parse(s);
            } catch (Fault f) {
                faultAt = f.at;
                return -10 - f.kind;
            }
            faultAt = NONE;
            worn = new int[10];
            seen.clear();
            book.clear();
            Arrays.fill(images, null);
            return told.places;
        }

        int told(int what) {
            int[] all = {told.places, told.stairs.size(), told.persons.size(), text.length(), law, seen.size(), book.size(),
                Arrays.stream(worn).sum()};
            return in(what, 0, 7) ? all[what] : OUTSIDE;
        }

        int stair(int r, int what) {
            if (!stairThere(r)) {
                return UNKNOWN;
            }
            Stair s = told.stairs.get(r);
            int[] parts = Arrays.copyOf(told.steps.get(r), 3);
            int[] all = {s.kind, s.p, s.q, told.steps.get(r).length, parts[0], parts[1], parts[2], worn[r], climbers(r)};
            return in(what, 0, 8) ? all[what] : OUTSIDE;
        }

        private int climbers(int r) {
            int set = 0;
            for (int p = 0; p < told.persons.size(); p++) {
                set += climbs(r, told.persons.get(p).strides()) ? 1 << p : 0;
            }
            return set;
        }

        int person(int p, int what) {
            if (!personThere(p)) {
                return UNKNOWN;
            }
            Person one = told.persons.get(p);
            int[] all = {one.place, one.first, one.second, bits(reachOf(one))};
            return in(what, 0, 3) ? all[what] : OUTSIDE;
        }

        int fit(int r, int stride) {
            return !stairThere(r) ? UNKNOWN : !in(stride, 1, 24) ? OUTSIDE : climbs(r, stride) ? 1 : 0;
        }

        int go(int p, int r) {
            if (!personThere(p) || !stairThere(r)) {
                return UNKNOWN;
            }
            return move(told.persons.get(p), r, true) ? told.persons.get(p).place : NOT;
        }

        int build(int r, int part, int n) {
            if (!partThere(r, part)) {
                return UNKNOWN;
            }
            if (!in(n, 1, 720)) {
                return OUTSIDE;
            }
            int was = told.steps.get(r)[part];
            told.steps.get(r)[part] = n;
            return was;
        }

        int law(int v) {
            if (!in(v, 0, 1)) {
                return OUTSIDE;
            }
            int was = law;
            law = v;
            return was;
        }

        int drift(int n) {
            if (!in(n, 1, 99)) {
                return OUTSIDE;
            }
            if (told.persons.isEmpty() || told.stairs.isEmpty()) {
                return NOT;
            }
            for (int day = 0; day < n; day++) {
                Person one = told.persons.get(draw(told.persons.size()));
                move(one, draw(told.stairs.size()), true);
                if (draw(16) == 0 && told.persons.size() < 8) {
                    int stride = draw(2) == 0 ? one.first : draw(24) + 1;
                    told.persons.add(new Person(one.place, stride, 0));
                }
            }
            return told.persons.size();
        }

        int reach(int from, int stride) {
            return !place(from) ? UNKNOWN : !in(stride, 1, 24) ? OUTSIDE : bits(reach(from, new int[] {stride}));
        }

        int guests(int p) {
            if (!personThere(p)) {
                return UNKNOWN;
            }
            TreeSet<Integer> set = new TreeSet<>();
            for (int q = 0; q < told.persons.size(); q++) {
                if (reachOf(told.persons.get(q)).contains(told.persons.get(p).place)) {
                    set.add(q);
                }
            }
            set.remove(p);
            return bits(set);
        }

        int wish(int in, int out) {
            if (!personsThere(in) || !personsThere(out)) {
                return UNKNOWN;
            }
            for (int n = 1; n <= 100000; n++) {
                boolean right = true;
                for (int p = 0; p < told.persons.size() && right; p++) {
                    Person one = told.persons.get(p);
                    if ((in >> p & 1) == 1 && n % one.first != 0) {
                        right = false;
                    }
                    if ((out >> p & 1) == 1 && (n % one.first == 0 || one.second != 0 && n % one.second == 0)) {
                        right = false;
                    }
                }
                if (right) {
                    return n;
                }
            }
            return NONE;
        }

        int pair(int p, int q, int what) {
            if (!personThere(p) || !personThere(q) || p == q) {
                return UNKNOWN;
            }
            if (!in(what, 0, 1)) {
                return OUTSIDE;
            }
            Person a = told.persons.get(p);
            Person b = told.persons.get(q);
            if (what == 0) {
                TreeSet<Integer> both = reachOf(a);
                both.retainAll(reachOf(b));
                return bits(both);
            }
            int n = 1;
            while (n % a.first != 0 || n % b.first != 0) {
                n++;
            }
            return n;
        }

        /** Whether somebody of these takes p over a stair, or p goes by itself. */
        private boolean passes(Person p, List<Person> helpers, int r, boolean up) {
            Stair s = told.stairs.get(r);
            if (goes(r, up, p.strides())) {
                return true;
            }
            for (Person c : helpers) {
                if (goes(r, up, c.strides()) && reachOf(c).contains(up ? s.p : s.q)) {
                    return true;
                }
            }
            return false;
        }

        private boolean brought(Person p, int to, List<Person> helpers) {
            TreeSet<Integer> set = new TreeSet<>(List.of(p.place));
            boolean grows = true;
            while (grows) {
                grows = false;
                for (int r = 0; r < told.stairs.size(); r++) {
                    Stair s = told.stairs.get(r);
                    grows |= set.contains(s.p) && !set.contains(s.q) && passes(p, helpers, r, true) && set.add(s.q);
                    grows |= set.contains(s.q) && !set.contains(s.p) && passes(p, helpers, r, false) && set.add(s.p);
                }
            }
            return set.contains(to);
        }

        private List<Person> some(int set) {
            List<Person> list = new ArrayList<>();
            for (int p = 0; p < told.persons.size(); p++) {
                if ((set >> p & 1) == 1) {
                    list.add(told.persons.get(p));
                }
            }
            return list;
        }

        int carried(int p, int to, int what) {
            if (!personThere(p) || !place(to)) {
                return UNKNOWN;
            }
            if (!in(what, 0, 1)) {
                return OUTSIDE;
            }
            for (int size = 0; size <= told.persons.size(); size++) {
                for (int set = 0; set < 1 << told.persons.size(); set++) {
                    boolean fair = Integer.bitCount(set) == size && (set >> p & 1) == 0;
                    if (fair && brought(told.persons.get(p), to, some(set))) {
                        return what == 0 ? size : set;
                    }
                }
            }
            return NONE;
        }

        private int[] change(int r, int part, int by) {
            int before = climbers(r);
            told.steps.get(r)[part] += by;
            int after = climbers(r);
            told.steps.get(r)[part] -= by;
            return new int[] {Integer.bitCount(after & ~before), Integer.bitCount(before & ~after)};
        }

        int step(int r, int part, int by, int what) {
            if (!partThere(r, part)) {
                return UNKNOWN;
            }
            if (by != 1 && by != -1 || !in(what, 0, 1) || !in(told.steps.get(r)[part] + by, 1, 720)) {
                return OUTSIDE;
            }
            return change(r, part, by)[what];
        }

        int worst(int what) {
            if (!in(what, 0, 2)) {
                return OUTSIDE;
            }
            int[] worst = {NONE, NONE, NONE};
            for (int r = told.stairs.size() - 1; r >= 0; r--) {
                for (int part = told.steps.get(r).length - 1; part >= 0; part--) {
                    int lost = told.steps.get(r)[part] == 1 ? 0 : change(r, part, -1)[1];
                    if (lost > 0 && lost >= worst[2]) {
                        worst = new int[] {r, part, lost};
                    }
                }
            }
            return worst[what];
        }

        int best(int from) {
            if (!place(from)) {
                return UNKNOWN;
            }
            int best = 24;
            for (int s = 23; s >= 1; s--) {
                if (reach(from, new int[] {s}).size() > reach(from, new int[] {best}).size()) {
                    best = s;
                }
            }
            return best;
        }

        int cover() {
            for (int size = 0; size <= told.persons.size(); size++) {
                for (int set = 0; set < 1 << told.persons.size(); set++) {
                    if (Integer.bitCount(set) == size && covers(some(set))) {
                        return set;
                    }
                }
            }
            return NONE;
        }

        private boolean covers(List<Person> people) {
            for (int r = 0; r < told.stairs.size(); r++) {
                int stair = r;
                if (people.stream().noneMatch(p -> climbs(stair, p.strides()))) {
                    return false;
                }
            }
            return true;
        }

        int see(int begin, int at, boolean was) {
            if (!place(begin) || !place(at)) {
                return UNKNOWN;
            }
            if (seen.size() == 20) {
                return FULL;
            }
            seen.add(new Seen(begin, at, was));
            return seen.size();
        }

        private List<Integer> asSeen() {
            List<Integer> list = new ArrayList<>();
            for (int s = 1; s <= 24; s++) {
                int stride = s;
                if (seen.stream().allMatch(e -> reach(e.begin, new int[] {stride}).contains(e.place) == e.was)) {
                    list.add(s);
                }
            }
            return list;
        }

        int fits() {
            int set = 0;
            for (int s : asSeen()) {
                set |= 1 << s - 1;
            }
            return set;
        }

        int ask() {
            List<Integer> strides = asSeen();
            int best = NONE;
            int gap = 1000;
            for (int r = 0; r < told.stairs.size(); r++) {
                int yes = 0;
                int no = 0;
                for (int s : strides) {
                    if (climbs(r, s)) {
                        yes++;
                    } else {
                        no++;
                    }
                }
                if (yes > 0 && no > 0 && Math.abs(yes - no) < gap) {
                    gap = Math.abs(yes - no);
                    best = r;
                }
            }
            return best;
        }

        int write(int p, int r) {
            if (!personThere(p) || !stairThere(r)) {
                return UNKNOWN;
            }
            if (book.size() == 40) {
                return FULL;
            }
            book.add(new int[] {p, r});
            return book.size();
        }

        int tear() {
            int both = book.size() + seen.size();
            book.clear();
            seen.clear();
            return both;
        }

        int judge() {
            List<Person> copies = new ArrayList<>();
            for (Person p : told.persons) {
                copies.add(p.copy());
            }
            for (int i = 0; i < book.size(); i++) {
                int[] entry = book.get(i);
                if (entry[0] >= copies.size() || !move(copies.get(entry[0]), entry[1], false)) {
                    return i;
                }
            }
            return NONE;
        }

        int seed(int v) {
            if (v < 0) {
                return OUTSIDE;
            }
            int was = (int) seed;
            seed = v;
            return was;
        }

        int keep(int i) {
            if (!in(i, 0, 1)) {
                return UNKNOWN;
            }
            Image image = new Image();
            told.persons.forEach(p -> image.persons.add(p.copy()));
            told.steps.forEach(s -> image.steps.add(s.clone()));
            image.worn = worn.clone();
            image.law = law;
            image.seed = seed;
            images[i] = image;
            return 1;
        }

        int goBack(int i) {
            if (!in(i, 0, 1)) {
                return UNKNOWN;
            }
            if (images[i] == null) {
                return NOT;
            }
            told.persons.clear();
            told.steps.clear();
            images[i].persons.forEach(p -> told.persons.add(p.copy()));
            images[i].steps.forEach(s -> told.steps.add(s.clone()));
            worn = images[i].worn.clone();
            law = images[i].law;
            seed = images[i].seed;
            return 1;
        }
    }

    private static final int[] ODD = {-1, -2, Integer.MIN_VALUE, Integer.MAX_VALUE, 8, 9, 10, 11, 24, 25, 100, 720, 721, 256, 1 << 30};
    private static final int[] STEPS = {1, 2, 3, 4, 5, 6, 7, 8, 12, 12, 24, 24, 30, 36, 60, 120, 180, 240, 719, 720};
    private static final int[] STRIDES = {1, 2, 2, 3, 3, 4, 5, 6, 7, 8, 9, 10, 11, 12, 13, 16, 17, 19, 23, 24};

    private final Random random;
    private final FittingStrides real = new FittingStrides();
    private final Model model = new Model();
    private final StringBuilder log = new StringBuilder();
    private boolean wrong = false;

    private ModelTests(long seed) {
        random = new Random(seed);
    }

    private int any(int n) {
        return random.nextInt(30) == 0 ? ODD[random.nextInt(ODD.length)] : random.nextInt(n);
    }

    private int from(int[] row) {
        return row[random.nextInt(row.length)];
    }

    private void same(String call, int got, int want) {
        if (got != want && !wrong) {
            wrong = true;
            System.out.println(log + call + " answered " + got + ", the model " + want);
        }
        if (log.length() > 20000) {
            log.delete(0, 10000);
        }
        log.append(call).append(" = ").append(want).append('\n');
    }

    private String blanks() {
        return random.nextInt(12) == 0 ? " ".repeat(random.nextInt(3)) : "";
    }

    private String text() {
        StringBuilder s = new StringBuilder();
        int places = 1 + random.nextInt(8);
        s.append(blanks()).append("places ").append(places).append(blanks()).append(';');
        int clauses = random.nextInt(17) + random.nextInt(3);
        for (int i = 0; i < clauses; i++) {
            s.append(blanks());
            if (random.nextInt(5) < 3 && places > 1) {
                int p = random.nextInt(places);
                int q = (p + 1 + random.nextInt(places - 1)) % places;
                s.append("stair ").append(new String[] {"plain", "plain", "open", "leap"}[random.nextInt(4)]);
                s.append(random.nextBoolean() ? " " : "").append(p).append(' ').append(blanks()).append(q).append(' ');
                boolean leap = random.nextInt(3) == 0;
                int n = leap ? from(STRIDES) : from(STEPS);
                s.append(n);
                for (int k = random.nextInt(4) - 1; k > 0; k--) {
                    s.append(blanks()).append(',').append(blanks()).append(leap && random.nextInt(4) > 0 ? n : from(STEPS));
                }
            } else {
                s.append("person ").append(random.nextInt(places)).append(' ').append(from(STRIDES));
                if (random.nextInt(3) == 0) {
                    s.append(' ').append(from(STRIDES));
                }
            }
            s.append(blanks()).append(';');
        }
        return random.nextInt(3) == 0 ? spoil(s) : s.toString();
    }

    private String spoil(StringBuilder s) {
        String[] bits = {"places", "stair", "person", "plain", "open", ";", ",", " ", "0", "1", "9", "24", "25", "721", "1000", "x", "A",
            "\t", "\u00e9", "\u0000", "/", ":", "`", "{"};
        for (int k = random.nextInt(2); k >= 0; k--) {
            int at = random.nextInt(s.length() + 1);
            int end = Math.min(s.length(), at + random.nextInt(3));
            switch (random.nextInt(4)) {
                case 0: s.insert(at, bits[random.nextInt(bits.length)]); break;
                case 1: s.replace(at, end, ""); break;
                case 2: s.replace(at, end, bits[random.nextInt(bits.length)]); break;
                default: s.setLength(random.nextInt(4) == 0 ? at : s.length());
            }
        }
        return s.toString();
    }

    private void tell() {
        String s = text();
        for (int i = 0; i < s.length();) {
            int n = Math.min(s.length() - i, i + 8 < s.length() ? 8 : 1 + random.nextInt(8));
            long bytes = random.nextInt();
            for (int k = 0; k < n; k++) {
                bytes = bytes << 8 | s.charAt(i + k);
            }
            feed(n, bytes);
            i += n;
        }
        town();
    }

    private void feed(int n, long bytes) {
        same("feed(" + n + ", " + bytes + ")", real.feed(n, bytes), model.feed(n, bytes));
    }

    private void town() {
        same("town()", real.town(), model.town());
        same("fault()", real.fault(), model.faultAt);
    }

    private void call() {
        int r = any(Math.max(1, model.told.stairs.size()));
        int p = any(Math.max(1, model.told.persons.size()));
        int q = any(Math.max(1, model.told.persons.size()));
        int place = any(Math.max(1, model.told.places));
        int other = any(Math.max(1, model.told.places));
        int set = any(1 << model.told.persons.size());
        int set2 = any(1 << model.told.persons.size()) & (random.nextBoolean() ? ~set & 255 : -1);
        int part = any(3);
        int what = any(2);
        boolean was = random.nextBoolean();
        switch (random.nextInt(31)) {
            case 0: feedOdd(); break;
            case 1: same("fault()", real.fault(), model.faultAt); break;
            case 2: what = any(8); same("told(" + what + ")", real.told(what), model.told(what)); break;
            case 3: what = any(9); same("stair(" + r + ", " + what + ")", real.stair(r, what), model.stair(r, what)); break;
            case 4: what = any(4); same("person(" + p + ", " + what + ")", real.person(p, what), model.person(p, what)); break;
            case 5: what = any(25); same("fit(" + r + ", " + what + ")", real.fit(r, what), model.fit(r, what)); break;
            case 6: case 7: case 8: same("go(" + p + ", " + r + ")", real.go(p, r), model.go(p, r)); break;
            case 9: what = random.nextInt(9) == 0 ? any(722) : from(STEPS);
                same("build(" + r + ", " + part + ", " + what + ")", real.build(r, part, what), model.build(r, part, what)); break;
            case 10: same("law(" + what + ")", real.law(what), model.law(what)); break;
            case 11: what = any(random.nextInt(3) == 0 ? 101 : 5); same("drift(" + what + ")", real.drift(what), model.drift(what)); break;
            case 12: what = any(25); same("reach(" + place + ", " + what + ")", real.reach(place, what), model.reach(place, what)); break;
            case 13: same("guests(" + p + ")", real.guests(p), model.guests(p)); break;
            case 14: same("wish(" + set + ", " + set2 + ")", real.wish(set, set2), model.wish(set, set2)); break;
            case 15: same("pair(" + p + ", " + q + ", " + what + ")", real.pair(p, q, what), model.pair(p, q, what)); break;
            case 16: case 17:
                same("carried(" + p + ", " + place + ", " + what + ")", real.carried(p, place, what), model.carried(p, place, what)); break;
            case 18: int by = random.nextInt(9) == 0 ? any(3) : random.nextBoolean() ? 1 : -1;
                same("step(" + r + ", " + part + ", " + by + ", " + what + ")", real.step(r, part, by, what), model.step(r, part, by, what));
                break;
            case 19: what = any(3); same("worst(" + what + ")", real.worst(what), model.worst(what)); break;
            case 20: same("best(" + place + ")", real.best(place), model.best(place)); break;
            case 21: same("cover()", real.cover(), model.cover()); break;
            case 22: was = random.nextInt(3) > 0;
                same("see(" + place + ", " + other + ", " + was + ")", real.see(place, other, was), model.see(place, other, was)); break;
            case 23: same("fits()", real.fits(), model.fits()); break;
            case 24: same("ask()", real.ask(), model.ask()); break;
            case 25: same("write(" + p + ", " + r + ")", real.write(p, r), model.write(p, r)); break;
            case 26: if (random.nextInt(8) == 0) { same("tear()", real.tear(), model.tear()); } break;
            case 27: same("judge()", real.judge(), model.judge()); break;
            case 28: what = random.nextInt(); same("seed(" + what + ")", real.seed(what), model.seed(what)); break;
            case 29: what = any(3); same("keep(" + what + ")", real.keep(what), model.keep(what)); break;
            default: what = any(3); same("goBack(" + what + ")", real.goBack(what), model.goBack(what));
        }
    }

    private void feedOdd() {
        if (random.nextInt(20) == 0) {
            town();
        } else if (random.nextInt(20) == 0) {
            for (int i = 0; i < 70; i++) {
                feed(1 + random.nextInt(8), random.nextLong());
            }
            town();
        } else if (random.nextInt(3) == 0) {
            feed(any(10), random.nextLong());
        }
    }

    private boolean run() {
        for (int i = 0; i < CALLS && !wrong; i++) {
            if (i % 100 == 3) {
                tell();
            } else {
                call();
            }
        }
        return !wrong;
    }

    public static void main(String[] args) {
        int runs = args.length > 0 ? Integer.parseInt(args[0]) : RUNS;
        int wrongRuns = 0;
        for (int i = 0; i < runs && wrongRuns < 3; i++) {
            if (!new ModelTests(i).run()) {
                wrongRuns++;
                System.out.println("-- in run " + i);
            }
        }
        System.out.println(wrongRuns == 0 ? "the class and the model answer alike" : wrongRuns + " runs are wrong");
        if (wrongRuns != 0) {
            System.exit(1);
        }
    }
}
