import java.util.Random;

/** Runs of calls, the same each time, whose answers are held against the model's. */
public final class ModelTest {
    private static final int RUNS = 400;
    // An object is used for at most 512 calls: a text takes up to 32 after the last of these, the sweep 68.
    private static final int CALLS = 410;
    private static final String[] WORDS = {"page", "deed", "letter", "treaty", "will", "verse", "sun", "ink", "dark",
        "brothers", "lamp", ";", ";", " ", "0", "1", "9", "20", "99", "100", "999", "1000", "moon", "#", "A"};

    private final Random random;
    private final InkNights x = new InkNights();
    private final Model m = new Model();
    private final int run;
    private int asked = 0;

    private ModelTest(int run) {
        this.run = run;
        this.random = new Random(run);
    }

    public static void main(String[] args) {
        for (int run = 0; run < RUNS && !Due.anyWrong(); run++) {
            new ModelTest(run).go();
        }
        Due.end("ModelTest");
    }

    private void due(String call, long got, long want) {
        asked++;
        Due.is("run " + run + ": " + call, got, want);
    }

    private void go() {
        if (run % 3 != 0) {
            due("jar(2, 300)", x.jar(2, 300), m.jar(2, 300));
        }
        if (run % 20 == 1) {
            for (int i = 0; i < 99; i++) {
                due("nights(100)", x.nights(100), m.nights(100));
            }
        }
        while (asked < CALLS && !Due.anyWrong()) {
            call();
        }
        sweep();
    }

    private void sweep() {
        for (int what = 0; what < 8; what++) {
            due("now(" + what + ")", x.now(what), m.now(what));
        }
        for (int page = 0; page < m.st.pages.size(); page++) {
            for (int what = 0; what < 5; what++) {
                due("of(" + page + ", " + what + ")", x.of(page, what), m.of(page, what));
            }
        }
        for (int place = 0; place < 12; place++) {
            due("dark(" + place + ", 0)", x.dark(place, 0), m.dark(place, 0));
        }
        for (int which = -1; which < 7; which++) {
            due("status(" + which + ")", x.status(which), m.status(which));
        }
    }

    /** A number from least to most, at times one just out of it or far from it. */
    private int some(int least, int most) {
        int chance = random.nextInt(60);
        if (chance == 0) return least - 1;
        if (chance == 1) return most + 1;
        if (chance == 2) return random.nextInt();
        if (chance == 3) return random.nextBoolean() ? Integer.MIN_VALUE : Integer.MAX_VALUE;
        if (chance < 8) return least;
        if (chance < 12) return most;
        return least + random.nextInt(most - least + 1);
    }

    private int page() {
        return some(0, Math.max(0, m.st.pages.size() - 1));
    }

    private int smallRead() {
        return random.nextBoolean() ? some(0, 20) : some(0, 9999);
    }

    private void call() {
        switch (random.nextInt(5)) {
            case 0: jarAndPages(); break;
            case 1: nights(); break;
            case 2: best(); break;
            case 3: sheets(); break;
            default: textAndImages();
        }
    }

    private void jarAndPages() {
        int p = page();
        int k = some(0, 5);
        int w = some(1, 99);
        int what = some(0, 4);
        int v = what == 4 ? smallRead() : some(what == 1 ? 1 : 0, what == 3 ? 1 : 99);
        switch (random.nextInt(12)) {
            case 0: due("jar 0 " + k, x.jar(0, k), m.jar(0, k)); break;
            case 1: {
                int which = some(0, 3);
                int to = some(0, which == 2 ? 999 : 9);
                due("jar(" + which + ", " + to + ")", x.jar(which, to), m.jar(which, to));
                break;
            }
            case 2: {
                int place = some(0, 11);
                int d = some(0, 20);
                due("dark(" + place + ", " + d + ")", x.dark(place, d), m.dark(place, d));
                break;
            }
            case 3: {
                int n = some(0, 7);
                due("now(" + n + ")", x.now(n), m.now(n));
                break;
            }
            case 4:
            case 5: due("scribe(" + k + ", " + w + ")", x.scribe(k, w), m.scribe(k, w)); break;
            case 6: {
                int n = some(0, 8);
                due("of(" + p + ", " + n + ")", x.of(p, n), m.of(p, n));
                break;
            }
            case 7: due("set(" + p + ", " + what + ", " + v + ")", x.set(p, what, v), m.set(p, what, v)); break;
            case 8: due("turn(" + p + ", " + k + ")", x.turn(p, k), m.turn(p, k)); break;
            case 9: due("as(" + p + ", " + k + ")", x.as(p, k), m.as(p, k)); break;
            case 10: due("looks(" + p + ")", x.looks(p), m.looks(p)); break;
            default: due("over(" + p + ")", x.over(p), m.over(p));
        }
    }

    private void nights() {
        int p = page();
        int n = random.nextBoolean() ? some(0, 200) : some(0, 9);
        int v = some(0, 999);
        int what = some(0, 1);
        switch (random.nextInt(7)) {
            case 0: {
                int few = random.nextInt(6) == 0 ? some(1, 100) : some(1, 3);
                due("nights(" + few + ")", x.nights(few), m.nights(few));
                break;
            }
            case 1: due("ink(" + n + ")", x.ink(n), m.ink(n)); break;
            case 2:
            case 3: due("on(" + p + ", " + n + ", " + what + ")", x.on(p, n, what), m.on(p, n, what)); break;
            case 4: due("all(" + n + ")", x.all(n), m.all(n)); break;
            case 5: due("white(" + p + ")", x.white(p), m.white(p)); break;
            default: due("comes(" + v + ")", x.comes(v), m.comes(v));
        }
    }

    private void best() {
        int p = page();
        int k = some(0, 5);
        int w = some(1, 99);
        int n = random.nextBoolean() ? some(1, 60) : some(1, 6);
        int v = random.nextInt(4) == 0 ? some(0, 9999) : some(0, 400);
        switch (random.nextInt(7)) {
            case 0: due("when(" + k + ", " + w + ")", x.when(k, w), m.when(k, w)); break;
            case 1: due("shade(" + n + ")", x.shade(n), m.shade(n)); break;
            case 2: due("enough(" + n + ", " + v + ")", x.enough(n, v), m.enough(n, v)); break;
            case 3: due("kind(" + p + ", " + n + ")", x.kind(p, n), m.kind(p, n)); break;
            case 4: due("lamp(" + n + ", " + v + ")", x.lamp(n, v), m.lamp(n, v)); break;
            case 5: due("longest(" + k + ")", x.longest(k), m.longest(k)); break;
            default: {
                int days = some(1, 20);
                due("sunny(" + days + ", " + v + ")", x.sunny(days, v), m.sunny(days, v));
            }
        }
    }

    private void sheets() {
        int s = some(0, 3);
        int t = some(0, 3);
        int p = page();
        int i = random.nextBoolean() ? some(0, 5) : some(0, 40);
        int j = some(0, 5);
        int n = some(0, 6);
        switch (random.nextInt(8)) {
            case 0: {
                int bits = new int[] {8, 8, 8, 16, 64, 0, 32, 1}[random.nextInt(8)];
                int size = random.nextInt(3) == 0 ? some(0, 40) : some(0, 7);
                due("sheet(" + s + ", " + bits + ", " + size + ")", x.sheet(s, bits, size), m.sheet(s, bits, size));
                break;
            }
            case 1:
            case 2: {
                long v = random.nextInt(5) == 0 ? random.nextLong() : some(0, 99);
                due("write(" + s + ", " + i + ", " + v + ")", x.write(s, i, v), m.write(s, i, v));
                break;
            }
            case 3: {
                String call = "copy(" + s + ", " + i + ", " + t + ", " + j + ", " + n + ")";
                due(call, x.copy(s, i, t, j, n), m.copy(s, i, t, j, n));
                break;
            }
            case 4: due("lays(" + s + ")", x.lays(s), m.lays(s)); break;
            case 5: due("book(" + s + ", " + p + ")", x.book(s, p), m.book(s, p)); break;
            default: due("read(" + s + ", " + p + ")", x.read(s, p), m.read(s, p));
        }
    }

    private void textAndImages() {
        int what = some(0, 3);
        int which = some(-1, 6);
        switch (random.nextInt(9)) {
            case 0: {
                int bytes = random.nextInt();
                int n = some(1, 4);
                due("feed(" + bytes + ", " + n + ")", x.feed(bytes, n), m.feed(bytes, n));
                break;
            }
            case 1: due("wipe()", x.wipe(), m.wipe()); break;
            case 2:
            case 3: feedAndTell(random.nextBoolean() ? likelyText() : anyText()); break;
            case 4: due("image()", x.image(), m.image()); break;
            case 5: due("undo()", x.undo(), m.undo()); break;
            case 6: {
                if (random.nextInt(4) == 0) {
                    due("tear()", x.tear(), m.tear());
                }
                break;
            }
            case 7: due("count(" + what + ")", x.count(what), m.count(what)); break;
            default: due("status(" + which + ")", x.status(which), m.status(which));
        }
    }

    private void feedAndTell(String text) {
        due("wipe()", x.wipe(), m.wipe());
        for (int i = 0; i < text.length() && i < 120; i += 4) {
            int n = Math.min(4, text.length() - i);
            int bytes = 0;
            for (int b = 0; b < n; b++) {
                bytes = bytes << 8 | text.charAt(i + b);
            }
            due("feed of '" + text + "'", x.feed(bytes, n), m.feed(bytes, n));
        }
        due("text of '" + text + "'", x.text(), m.text());
    }

    private String anyText() {
        StringBuilder text = new StringBuilder();
        int words = random.nextInt(8);
        for (int i = 0; i < words; i++) {
            text.append(WORDS[random.nextInt(WORDS.length)]);
            if (random.nextInt(4) > 0) {
                text.append(' ');
            }
        }
        return text.toString();
    }

    private String likelyText() {
        StringBuilder text = new StringBuilder();
        int items = 1 + random.nextInt(4);
        for (int i = 0; i < items; i++) {
            text.append(i == 0 ? "" : ";").append(item());
        }
        return text.toString();
    }

    private String item() {
        switch (random.nextInt(8)) {
            case 0: return "ink " + rarely(random.nextInt(1000), 1000);
            case 1: return "dark " + rarely(random.nextInt(12), 12) + " " + rarely(random.nextInt(21), 21);
            case 2: return "brothers" + rarely(random.nextInt(10), 10);
            case 3: return " lamp  " + rarely(random.nextInt(10), 10);
            default: {
                String sun = random.nextBoolean() ? " sun" : "";
                return WORDS[random.nextInt(6)] + " " + rarely(1 + random.nextInt(99), 100) + sun;
            }
        }
    }

    private int rarely(int usual, int rare) {
        return random.nextInt(30) == 0 ? rare : usual;
    }
}
