import java.util.ArrayList;
import java.util.List;
import java.util.regex.Matcher;
import java.util.regex.Pattern;

/**
 * The document written down a second time, as slowly and plainly as can be: nights go one by one on a copy
 * of all there is, and what is best is sought among all. ModelTest holds the class against it.
 */
final class Model {
    /** The KINDS as classes under one another. */
    static class Kind {
        int costs(int w) {
            return 1 + w / 20;
        }

        int takes(int d) {
            return 4 * d;
        }

        int fades(Leaf p) {
            return p.sun == 1 ? 9 : 0;
        }

        int believed(Leaf p, int l) {
            return p.black * l / 9;
        }
    }

    static class Deed extends Kind {
        @Override int costs(int w) {
            return super.costs(w) + 2;
        }

        @Override int takes(int d) {
            return super.takes(d) + 10;
        }

        @Override int fades(Leaf p) {
            return super.fades(p) / 2;
        }

        @Override int believed(Leaf p, int l) {
            return super.believed(p, l) + (p.black > 50 ? 5 : 0);
        }
    }

    static class Letter extends Kind {
        @Override int costs(int w) {
            return Math.max(super.costs(w) / 2, 1);
        }

        @Override int fades(Leaf p) {
            return super.fades(p) + 1;
        }

        @Override int believed(Leaf p, int l) {
            return Math.max(super.believed(p, l) - p.read, 0);
        }
    }

    static class Treaty extends Kind {
        @Override int costs(int w) {
            return 2 * super.costs(w);
        }

        @Override int takes(int d) {
            return d >= 15 ? 5 * d : super.takes(d);
        }

        @Override int believed(Leaf p, int l) {
            return l >= 5 ? p.black : 0;
        }
    }

    static class Will extends Deed {
        @Override int costs(int w) {
            return super.costs(w) - 1;
        }

        @Override int fades(Leaf p) {
            return p.read == 0 ? 0 : super.fades(p);
        }

        @Override int believed(Leaf p, int l) {
            return 2 * super.believed(p, l);
        }
    }

    static class Verse extends Letter {
        @Override int costs(int w) {
            return super.costs(w) + 1;
        }

        @Override int takes(int d) {
            return Math.max(super.takes(d) - 5, 0);
        }

        @Override int fades(Leaf p) {
            return super.fades(p) + p.read / 4;
        }

        @Override int believed(Leaf p, int l) {
            return super.believed(p, l) + l;
        }
    }

    static final Kind[] KINDS = {new Kind(), new Deed(), new Letter(), new Treaty(), new Will(), new Verse()};
    static final List<String> NAMES = List.of("page", "deed", "letter", "treaty", "will", "verse");

    static final class Leaf {
        int kind;
        int words;
        int black;
        int sun;
        int read;

        Leaf(int kind, int words, int black, int sun, int read) {
            this.kind = kind;
            this.words = words;
            this.black = black;
            this.sun = sun;
            this.read = read;
        }

        int believed(int l) {
            return black == 0 ? 0 : KINDS[kind].believed(this, l);
        }
    }

    static final class State {
        int night = 0;
        int brothers = 3;
        int buckets = 0;
        int ink = 5;
        int lamp = 5;
        int[] dark = new int[12];
        List<Leaf> pages = new ArrayList<>();

        State copy() {
            State c = new State();
            c.night = night;
            c.brothers = brothers;
            c.buckets = buckets;
            c.ink = ink;
            c.lamp = lamp;
            c.dark = dark.clone();
            for (Leaf p : pages) {
                c.pages.add(new Leaf(p.kind, p.words, p.black, p.sun, p.read));
            }
            return c;
        }

        int darkNow() {
            return dark[night % 12];
        }

        void goOne() {
            buckets += darkNow() * brothers;
            while (buckets >= 9) {
                buckets -= 9;
                ink = Math.min(999, ink + 1);
            }
            for (Leaf p : pages) {
                p.black = Math.max(0, p.black - KINDS[p.kind].fades(p));
            }
            night++;
        }

        State on(int n) {
            State c = copy();
            for (int i = 0; i < n; i++) {
                c.goOne();
            }
            return c;
        }

        int all() {
            int sum = 0;
            for (Leaf p : pages) {
                sum += p.believed(lamp);
            }
            return sum;
        }

        int takes(int kind) {
            return Math.min(99, KINDS[kind].takes(darkNow()));
        }

        void write(int kind, int words) {
            ink -= KINDS[kind].costs(words);
            pages.add(new Leaf(kind, words, takes(kind), 0, 0));
        }
    }

    State st = new State();
    State kept = null;
    String tape = "";
    long[][] rows = new long[4][];
    int[] bits = new int[4];
    int[] found = new int[7];

    Model() {
        for (int i = 0; i < 12; i++) {
            st.dark[i] = 4 + (5 * i) % 13;
        }
    }

    int f(int finding) {
        found[-1000000001 - finding]++;
        return finding;
    }

    static boolean in(long v, long a, long b) {
        return a <= v && v <= b;
    }

    boolean page(int p) {
        return in(p, 0, st.pages.size() - 1);
    }

    int jar(int what, int v) {
        int[] most = {9, 8, 999, 9};
        if (!in(what, 0, 3) || !in(v, 0, most[what])) return f(Due.BEYOND);
        int[] was = {st.brothers, st.buckets, st.ink, st.lamp};
        if (what == 0) st.brothers = v;
        if (what == 1) st.buckets = v;
        if (what == 2) st.ink = v;
        if (what == 3) st.lamp = v;
        return was[what];
    }

    int dark(int place, int v) {
        if (!in(place, 0, 11) || !in(v, 0, 20)) return f(Due.BEYOND);
        int was = st.dark[place];
        st.dark[place] = v;
        return was;
    }

    int now(int what) {
        if (!in(what, 0, 7)) return f(Due.BEYOND);
        int set = 0;
        for (int i = 0; i < st.pages.size(); i++) {
            if (st.pages.get(i).black > 0) set += 1 << i;
        }
        return new int[] {st.night, st.darkNow(), st.brothers, st.buckets, st.ink, st.lamp, set, st.all()}[what];
    }

    int scribe(int kind, int words) {
        if (!in(kind, 0, 5) || !in(words, 1, 99)) return f(Due.BEYOND);
        if (st.pages.size() == 8) return f(Due.FULL);
        if (KINDS[kind].costs(words) > st.ink) return f(Due.STATE);
        st.write(kind, words);
        return st.pages.size() - 1;
    }

    int of(int page, int what) {
        if (!page(page) || !in(what, 0, 8)) return f(Due.BEYOND);
        Leaf p = st.pages.get(page);
        return new int[] {p.kind, p.words, p.black, p.sun, p.read, KINDS[p.kind].costs(p.words), st.takes(p.kind),
            KINDS[p.kind].fades(p), p.believed(st.lamp)}[what];
    }

    int set(int page, int what, int v) {
        int[] least = {0, 1, 0, 0, 0};
        int[] most = {0, 99, 99, 1, 9999};
        if (!page(page) || !in(what, 1, 4) || !in(v, least[what], most[what])) return f(Due.BEYOND);
        Leaf p = st.pages.get(page);
        int was = new int[] {0, p.words, p.black, p.sun, p.read}[what];
        if (what == 1) p.words = v;
        if (what == 2) p.black = v;
        if (what == 3) p.sun = v;
        if (what == 4) p.read = v;
        return was;
    }

    int turn(int page, int kind) {
        if (!page(page) || !in(kind, 0, 5)) return f(Due.BEYOND);
        int was = st.pages.get(page).kind;
        st.pages.get(page).kind = kind;
        return was;
    }

    int as(int page, int kind) {
        if (!page(page) || !in(kind, 0, 5)) return f(Due.BEYOND);
        Leaf p = st.pages.get(page);
        return KINDS[kind].getClass().isInstance(KINDS[p.kind]) ? p.black : f(Due.KIND);
    }

    int looks(int page) {
        if (!page(page)) return f(Due.BEYOND);
        if (st.lamp == 0) return f(Due.STATE);
        Leaf p = st.pages.get(page);
        int was = p.believed(st.lamp);
        if (p.read < 9999) p.read++;
        return was;
    }

    int over(int page) {
        if (!page(page)) return f(Due.BEYOND);
        Leaf p = st.pages.get(page);
        if (KINDS[p.kind].costs(p.words) > st.ink) return f(Due.STATE);
        st.ink -= KINDS[p.kind].costs(p.words);
        p.black = st.takes(p.kind);
        p.read = 0;
        return p.black;
    }

    int nights(int n) {
        if (!in(n, 1, 100)) return f(Due.BEYOND);
        if (st.night + n > 9999) return f(Due.STATE);
        for (int i = 0; i < n; i++) st.goOne();
        return st.ink;
    }

    int ink(int n) {
        return in(n, 0, 200) ? st.on(n).ink : f(Due.BEYOND);
    }

    int on(int page, int n, int what) {
        if (!page(page) || !in(n, 0, 200) || !in(what, 0, 1)) return f(Due.BEYOND);
        Leaf p = st.on(n).pages.get(page);
        return what == 0 ? p.black : p.believed(st.lamp);
    }

    int all(int n) {
        return in(n, 0, 200) ? st.on(n).all() : f(Due.BEYOND);
    }

    int white(int page) {
        if (!page(page)) return f(Due.BEYOND);
        for (int n = 0; n <= 200; n++) {
            if (st.on(n).pages.get(page).black == 0) return n;
        }
        return f(Due.NONE);
    }

    int comes(int v) {
        if (!in(v, 0, 999)) return f(Due.BEYOND);
        for (int n = 0; n <= 200; n++) {
            if (st.on(n).ink >= v) return n;
        }
        return f(Due.NONE);
    }

    int when(int kind, int words) {
        if (!in(kind, 0, 5) || !in(words, 1, 99)) return f(Due.BEYOND);
        int best = -1;
        for (int n = 11; n >= 0; n--) {
            State then = st.on(n);
            boolean may = then.ink >= KINDS[kind].costs(words);
            if (may && (best < 0 || then.takes(kind) >= st.on(best).takes(kind))) best = n;
        }
        return best < 0 ? f(Due.NONE) : best;
    }

    int shade(int n) {
        if (!in(n, 1, 60)) return f(Due.BEYOND);
        int best = -1;
        int most = -1;
        for (int i = 0; i < st.pages.size(); i++) {
            if (st.pages.get(i).sun == 0) continue;
            State c = st.copy();
            c.pages.get(i).sun = 0;
            int all = c.on(n).all();
            if (all > most) {
                most = all;
                best = i;
            }
        }
        return best < 0 ? f(Due.NONE) : best;
    }

    int enough(int n, int v) {
        if (!in(n, 1, 60) || !in(v, 0, 999)) return f(Due.BEYOND);
        for (int b = 0; b <= 9; b++) {
            State c = st.copy();
            c.brothers = b;
            if (c.on(n).ink >= v) return b;
        }
        return f(Due.NONE);
    }

    int kind(int page, int n) {
        if (!page(page) || !in(n, 0, 60)) return f(Due.BEYOND);
        int best = -1;
        int most = -1;
        for (int k = 0; k < 6; k++) {
            State c = st.copy();
            c.pages.get(page).kind = k;
            int b = c.on(n).pages.get(page).believed(st.lamp);
            if (b > most) {
                most = b;
                best = k;
            }
        }
        return best;
    }

    int lamp(int n, int v) {
        if (!in(n, 0, 60) || !in(v, 0, 9999)) return f(Due.BEYOND);
        for (int l = 0; l <= 9; l++) {
            State c = st.copy();
            c.lamp = l;
            if (c.on(n).all() >= v) return l;
        }
        return f(Due.NONE);
    }

    int longest(int kind) {
        if (!in(kind, 0, 5)) return f(Due.BEYOND);
        if (st.pages.size() == 8) return f(Due.FULL);
        int longest = 0;
        for (int w = 1; w <= 99; w++) {
            if (KINDS[kind].costs(w) <= st.ink) longest = w;
        }
        return longest == 0 ? f(Due.NONE) : longest;
    }

    int sunny(int n, int v) {
        if (!in(n, 1, 20) || !in(v, 0, 9999)) return f(Due.BEYOND);
        for (int size = st.pages.size(); size >= 0; size--) {
            for (int set = 0; set < 1 << st.pages.size(); set++) {
                if (Integer.bitCount(set) != size) continue;
                State c = st.copy();
                for (int i = 0; i < c.pages.size(); i++) c.pages.get(i).sun = set >> i & 1;
                if (c.on(n).all() >= v) return set;
            }
        }
        return f(Due.NONE);
    }

    int feed(int bytes, int n) {
        if (!in(n, 1, 4)) return f(Due.BEYOND);
        if (tape.length() + n > 120) return f(Due.FULL);
        for (int i = n; i > 0; i--) tape += (char) (bytes >>> 8 * (i - 1) & 255);
        return tape.length();
    }

    int wipe() {
        int had = tape.length();
        tape = "";
        return had;
    }

    private static final Pattern TOKEN = Pattern.compile(" *([a-z]+|[0-9]+|;|[^ ]|$)", Pattern.DOTALL);

    /** The TOKENS of THE TAPE with their places, an empty one at the end. */
    static final class Tokens {
        final List<String> words = new ArrayList<>();
        final List<Integer> places = new ArrayList<>();
        int at = 0;

        Tokens(String tape) {
            Matcher m = TOKEN.matcher(tape);
            while (m.find()) {
                words.add(m.group(1));
                places.add(m.start(1));
            }
        }

        String see() {
            return words.get(at);
        }

        int number(int a, int b) {
            String t = see();
            if (!t.matches("[0-9]+")) return -1;
            java.math.BigInteger v = new java.math.BigInteger(t);
            if (v.bitLength() > 20 || !in(v.intValue(), a, b)) return -1;
            return v.intValue();
        }
    }

    int text() {
        Tokens t = new Tokens(tape);
        State c = st.copy();
        int items = 0;
        tape = "";
        while (true) {
            if (!item(t, c)) return -1 - t.places.get(t.at);
            items++;
            if (t.see().isEmpty()) break;
            if (!t.see().equals(";")) return -1 - t.places.get(t.at);
            t.at++;
        }
        st = c;
        return items;
    }

    private static boolean item(Tokens t, State c) {
        String name = t.see();
        int kind = NAMES.indexOf(name);
        if (kind >= 0) {
            if (c.pages.size() == 8) return false;
            t.at++;
            int words = t.number(1, 99);
            if (words < 0 || KINDS[kind].costs(words) > c.ink) return false;
            c.write(kind, words);
            t.at++;
            if (t.see().equals("sun")) {
                c.pages.get(c.pages.size() - 1).sun = 1;
                t.at++;
            }
            return true;
        }
        if (!List.of("ink", "dark", "brothers", "lamp").contains(name)) return false;
        t.at++;
        int most = name.equals("ink") ? 999 : name.equals("dark") ? 11 : 9;
        int v = t.number(0, most);
        if (v < 0) return false;
        t.at++;
        if (name.equals("ink")) c.ink = v;
        if (name.equals("brothers")) c.brothers = v;
        if (name.equals("lamp")) c.lamp = v;
        if (name.equals("dark")) {
            int d = t.number(0, 20);
            if (d < 0) return false;
            c.dark[v] = d;
            t.at++;
        }
        return true;
    }

    int sheet(int s, int b, int n) {
        if (!in(s, 0, 3) || !List.of(0, 8, 16, 64).contains(b)) return f(Due.BEYOND);
        if (n < 0) return f(Due.SIZE);
        if (n > 40) return f(Due.BEYOND);
        bits[s] = b;
        rows[s] = b == 0 ? null : new long[n];
        return b == 0 ? 0 : n;
    }

    long write(int s, int i, long v) {
        if (!in(s, 0, 3)) return f(Due.BEYOND);
        if (rows[s] == null) return f(Due.MISSING);
        if (!in(i, 0, rows[s].length - 1)) return f(Due.BEYOND);
        long was = rows[s][i];
        rows[s][i] = v << 64 - bits[s] >> 64 - bits[s];
        return was;
    }

    int copy(int s, int from, int t, int to, int n) {
        if (!in(s, 0, 3) || !in(t, 0, 3)) return f(Due.BEYOND);
        if (rows[s] == null || rows[t] == null) return f(Due.MISSING);
        if (bits[s] != bits[t]) return f(Due.KIND);
        if (from < 0 || to < 0 || n < 0) return f(Due.BEYOND);
        if ((long) from + n > rows[s].length || (long) to + n > rows[t].length) return f(Due.BEYOND);
        long[] was = rows[s].clone();
        for (int i = 0; i < n; i++) rows[t][to + i] = was[from + i];
        return n;
    }

    int lays(int s) {
        if (!in(s, 0, 3)) return f(Due.BEYOND);
        if (rows[s] == null) return f(Due.MISSING);
        int came = 0;
        for (int i = 0; i < rows[s].length; i++) {
            if (!page(i) || !in(rows[s][i], 0, 99)) continue;
            st.pages.get(i).black = (int) rows[s][i];
            came++;
        }
        return came;
    }

    int book(int s, int page) {
        if (!in(s, 0, 3)) return f(Due.BEYOND);
        if (rows[s] == null) return f(Due.MISSING);
        if (!page(page)) return f(Due.BEYOND);
        for (int i = 0; i < rows[s].length; i++) rows[s][i] = st.on(i).pages.get(page).black;
        return rows[s].length;
    }

    int read(int s, int page) {
        if (!in(s, 0, 3)) return f(Due.BEYOND);
        if (rows[s] == null) return f(Due.MISSING);
        if (!page(page)) return f(Due.BEYOND);
        int pairs = 0;
        for (int k = 0; k < 6; k++) {
            for (int b = 0; b <= 99; b++) {
                State c = new State();
                Leaf p = st.pages.get(page);
                c.pages.add(new Leaf(k, p.words, b, p.sun, p.read));
                boolean so = true;
                for (int i = 0; i < rows[s].length && so; i++) {
                    so = c.pages.get(0).black == rows[s][i];
                    c.goOne();
                }
                if (so) pairs++;
            }
        }
        return pairs;
    }

    int image() {
        kept = st.copy();
        return 1;
    }

    int undo() {
        if (kept == null) return f(Due.NONE);
        st = kept.copy();
        return st.pages.size();
    }

    int tear() {
        int had = kept == null ? 0 : 1;
        kept = null;
        return had;
    }

    int count(int what) {
        if (!in(what, 0, 3)) return f(Due.BEYOND);
        int sun = 0;
        int words = 0;
        for (Leaf p : st.pages) {
            sun += p.sun;
            words += p.words;
        }
        return new int[] {st.pages.size(), tape.length(), sun, words}[what];
    }

    int status(int which) {
        if (!in(which, -1, 6)) return f(Due.BEYOND);
        int sum = 0;
        for (int n : found) sum += n;
        return which == -1 ? sum : found[which];
    }
}
