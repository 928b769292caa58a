import java.util.Arrays;

/** A scriptorium that writes with ink boiled down from nights; the document's promises are its methods. */
public final class InkNights {
    // The findings by the numbers under which status() counts them.
    private static final int BEYOND = 0;
    private static final int FULL = 1;
    private static final int KIND = 2;
    private static final int NONE = 3;
    private static final int STATE = 4;
    private static final int MISSING = 5;
    private static final int SIZE = 6;
    private static final int FINDINGS = 7;
    private static final int FIRST_FINDING = -1000000001;

    private static final int MOST_ON = 200;
    private static final int MOST_BEST = 60;
    private static final int MOST_SUNNY = 20;
    private static final int MOST_GOING = 100;
    private static final int MOST_BELIEVED = 9999;
    private static final int SHEETS = 4;

    private final int[] findings = new int[FINDINGS];
    private final Scriptorium here = new Scriptorium();
    private final Scriptorium kept = new Scriptorium();
    // A text is told to the draft first, so that one with a FAULT changes nothing.
    private final Scriptorium draft = new Scriptorium();
    private final Tape tape = new Tape();
    private final Sheet[] sheets = new Sheet[SHEETS];
    private boolean isKept;

    public InkNights() {
        for (int s = 0; s < sheets.length; s++) {
            sheets[s] = new Sheet();
        }
    }

    // ---- the jar

    public int jar(int what, int v) {
        if (!isWithin(v, 0, Scriptorium.mostInJar(what))) {
            return found(BEYOND);
        }
        int was = here.jarHolds(what);
        here.fillJar(what, v);
        return was;
    }

    public int dark(int place, int v) {
        if (!isWithin(place, 0, Scriptorium.PLACES - 1) || !isWithin(v, 0, Scriptorium.MOST_DARK)) {
            return found(BEYOND);
        }
        int was = here.dark[place];
        here.dark[place] = v;
        return was;
    }

    public int now(int what) {
        switch (what) {
            case 0: return here.night;
            case 1: return here.darkOn(0);
            case 2: return here.brothers;
            case 3: return here.buckets;
            case 4: return here.ink;
            case 5: return here.lamp;
            case 6: return here.notWhite();
            case 7: return here.believedTogether(0, here.lamp);
            default: return found(BEYOND);
        }
    }

    // ---- pages

    public int scribe(int kind, int words) {
        if (!Kinds.isKind(kind) || !isWithin(words, 1, Page.MOST_WORDS)) {
            return found(BEYOND);
        }
        if (here.isFull()) {
            return found(FULL);
        }
        if (!here.hasInkFor(kind, words)) {
            return found(STATE);
        }
        return here.addPage(kind, words);
    }

    public int of(int page, int what) {
        if (!here.hasPage(page)) {
            return found(BEYOND);
        }
        Page p = here.pages[page];
        switch (what) {
            case 0: return p.kind;
            case 1: return p.words;
            case 2: return p.black;
            case 3: return p.sun;
            case 4: return p.read;
            case 5: return Kinds.costs(p.kind, p.words);
            case 6: return Kinds.takes(p.kind, here.darkOn(0));
            case 7: return Kinds.fades(p.kind, p.sun, p.read);
            case 8: return p.believedOn(0, here.lamp);
            default: return found(BEYOND);
        }
    }

    public int set(int page, int what, int v) {
        if (!here.hasPage(page) || !isWithin(v, Page.least(what), Page.most(what))) {
            return found(BEYOND);
        }
        int was = here.pages[page].has(what);
        here.pages[page].put(what, v);
        return was;
    }

    public int turn(int page, int kind) {
        if (!here.hasPage(page) || !Kinds.isKind(kind)) {
            return found(BEYOND);
        }
        int was = here.pages[page].kind;
        here.pages[page].kind = kind;
        return was;
    }

    public int as(int page, int kind) {
        if (!here.hasPage(page) || !Kinds.isKind(kind)) {
            return found(BEYOND);
        }
        if (!Kinds.isOneOf(here.pages[page].kind, kind)) {
            return found(KIND);
        }
        return here.pages[page].black;
    }

    public int looks(int page) {
        if (!here.hasPage(page)) {
            return found(BEYOND);
        }
        if (here.lamp == 0) {
            return found(STATE);
        }
        Page p = here.pages[page];
        int believed = p.believedOn(0, here.lamp);
        p.read = Math.min(Page.MOST_READ, p.read + 1);
        return believed;
    }

    public int over(int page) {
        if (!here.hasPage(page)) {
            return found(BEYOND);
        }
        Page p = here.pages[page];
        if (!here.hasInkFor(p.kind, p.words)) {
            return found(STATE);
        }
        here.spendInkOn(p);
        return p.black;
    }

    // ---- nights

    public int nights(int n) {
        if (!isWithin(n, 1, MOST_GOING)) {
            return found(BEYOND);
        }
        if (here.night + n > Scriptorium.MOST_NIGHT) {
            return found(STATE);
        }
        here.letGo(n);
        return here.ink;
    }

    public int ink(int n) {
        if (!isWithin(n, 0, MOST_ON)) {
            return found(BEYOND);
        }
        return here.inkOn(n, here.brothers);
    }

    public int on(int page, int n, int what) {
        if (!here.hasPage(page) || !isWithin(n, 0, MOST_ON) || !isWithin(what, 0, 1)) {
            return found(BEYOND);
        }
        Page p = here.pages[page];
        return what == 0 ? p.blackOn(n) : p.believedOn(n, here.lamp);
    }

    public int all(int n) {
        if (!isWithin(n, 0, MOST_ON)) {
            return found(BEYOND);
        }
        return here.believedTogether(n, here.lamp);
    }

    public int white(int page) {
        if (!here.hasPage(page)) {
            return found(BEYOND);
        }
        return orNone(here.pages[page].firstWhite(MOST_ON));
    }

    public int comes(int v) {
        if (!isWithin(v, 0, Scriptorium.MOST_INK)) {
            return found(BEYOND);
        }
        return orNone(here.firstWithInk(v, MOST_ON));
    }

    // ---- what is best

    public int when(int kind, int words) {
        if (!Kinds.isKind(kind) || !isWithin(words, 1, Page.MOST_WORDS)) {
            return found(BEYOND);
        }
        return orNone(here.blackestNight(kind, words));
    }

    public int shade(int n) {
        if (!isWithin(n, 1, MOST_BEST)) {
            return found(BEYOND);
        }
        return orNone(here.bestShaded(n));
    }

    public int enough(int n, int v) {
        if (!isWithin(n, 1, MOST_BEST) || !isWithin(v, 0, Scriptorium.MOST_INK)) {
            return found(BEYOND);
        }
        return orNone(here.fewestBrothers(n, v));
    }

    public int kind(int page, int n) {
        if (!here.hasPage(page) || !isWithin(n, 0, MOST_BEST)) {
            return found(BEYOND);
        }
        return here.pages[page].mostBelievedKind(n, here.lamp);
    }

    public int lamp(int n, int v) {
        if (!isWithin(n, 0, MOST_BEST) || !isWithin(v, 0, MOST_BELIEVED)) {
            return found(BEYOND);
        }
        return orNone(here.leastLamp(n, v));
    }

    public int longest(int kind) {
        if (!Kinds.isKind(kind)) {
            return found(BEYOND);
        }
        if (here.isFull()) {
            return found(FULL);
        }
        return orNone(here.mostWords(kind));
    }

    public int sunny(int n, int v) {
        if (!isWithin(n, 1, MOST_SUNNY) || !isWithin(v, 0, MOST_BELIEVED)) {
            return found(BEYOND);
        }
        return orNone(here.mostInSun(n, v));
    }

    // ---- the text

    public int feed(int bytes, int n) {
        if (!isWithin(n, 1, 4)) {
            return found(BEYOND);
        }
        if (tape.length + n > Tape.MOST) {
            return found(FULL);
        }
        for (int i = n - 1; i >= 0; i--) {
            tape.addByte(bytes >> 8 * i & 255);
        }
        return tape.length;
    }

    public int wipe() {
        int had = tape.length;
        tape.length = 0;
        return had;
    }

    public int text() {
        draft.become(here);
        int items = Telling.tell(tape, draft);
        if (items >= 0) {
            here.become(draft);
        }
        tape.length = 0;
        return items;
    }

    // ---- sheets

    public int sheet(int s, int bits, int n) {
        if (!isSheet(s) || !Sheet.mayHaveBits(bits)) {
            return found(BEYOND);
        }
        if (n < 0) {
            return found(SIZE);
        }
        if (n > Sheet.MOST) {
            return found(BEYOND);
        }
        sheets[s].layOut(bits, n);
        return sheets[s].length;
    }

    public long write(int s, int i, long v) {
        if (!isSheet(s)) {
            return found(BEYOND);
        }
        if (sheets[s].isMissing()) {
            return found(MISSING);
        }
        if (!isWithin(i, 0, sheets[s].length - 1)) {
            return found(BEYOND);
        }
        long was = sheets[s].numbers[i];
        sheets[s].numbers[i] = sheets[s].lowestBits(v);
        return was;
    }

    public int copy(int s, int from, int t, int to, int n) {
        if (!isSheet(s) || !isSheet(t)) {
            return found(BEYOND);
        }
        if (sheets[s].isMissing() || sheets[t].isMissing()) {
            return found(MISSING);
        }
        if (sheets[s].bits != sheets[t].bits) {
            return found(KIND);
        }
        if (!sheets[s].hasRow(from, n) || !sheets[t].hasRow(to, n)) {
            return found(BEYOND);
        }
        System.arraycopy(sheets[s].numbers, from, sheets[t].numbers, to, n);
        return n;
    }

    public int lays(int s) {
        if (!isSheet(s)) {
            return found(BEYOND);
        }
        if (sheets[s].isMissing()) {
            return found(MISSING);
        }
        return here.blacken(sheets[s]);
    }

    public int book(int s, int page) {
        if (!isSheet(s)) {
            return found(BEYOND);
        }
        if (sheets[s].isMissing()) {
            return found(MISSING);
        }
        if (!here.hasPage(page)) {
            return found(BEYOND);
        }
        for (int n = 0; n < sheets[s].length; n++) {
            sheets[s].numbers[n] = here.pages[page].blackOn(n);
        }
        return sheets[s].length;
    }

    public int read(int s, int page) {
        if (!isSheet(s)) {
            return found(BEYOND);
        }
        if (sheets[s].isMissing()) {
            return found(MISSING);
        }
        if (!here.hasPage(page)) {
            return found(BEYOND);
        }
        return here.pages[page].waysToFadeAs(sheets[s]);
    }

    // ---- images

    public int image() {
        kept.become(here);
        isKept = true;
        return 1;
    }

    public int undo() {
        if (!isKept) {
            return found(NONE);
        }
        here.become(kept);
        return here.pageCount;
    }

    public int tear() {
        int had = isKept ? 1 : 0;
        isKept = false;
        return had;
    }

    public int count(int what) {
        switch (what) {
            case 0: return here.pageCount;
            case 1: return tape.length;
            case 2: return here.pagesInSun();
            case 3: return here.wordsTogether();
            default: return found(BEYOND);
        }
    }

    public int status(int which) {
        if (!isWithin(which, -1, FINDINGS - 1)) {
            return found(BEYOND);
        }
        if (which >= 0) {
            return findings[which];
        }
        int together = 0;
        for (int f = 0; f < FINDINGS; f++) {
            together += findings[f];
        }
        return together;
    }

    private int found(int finding) {
        if (isWithin(finding, 0, FINDINGS - 1)) {
            findings[finding]++;
        }
        return FIRST_FINDING - finding;
    }

    private int orNone(int answer) {
        return answer < 0 ? found(NONE) : answer;
    }

    private static boolean isSheet(int s) {
        return isWithin(s, 0, SHEETS - 1);
    }

    private static boolean isWithin(int v, int least, int most) {
        return v >= least && v <= most;
    }

    /** What the KINDS have of their own; each asks the KIND above it first. */
    private static final class Kinds {
        static final int PAGE = 0;
        static final int DEED = 1;
        static final int LETTER = 2;
        static final int TREATY = 3;
        static final int WILL = 4;
        static final int VERSE = 5;
        static final int KINDS = 6;

        static boolean isKind(int kind) {
            return isWithin(kind, 0, KINDS - 1);
        }

        static String nameOf(int kind) {
            switch (kind) {
                case DEED: return "deed";
                case LETTER: return "letter";
                case TREATY: return "treaty";
                case WILL: return "will";
                case VERSE: return "verse";
                default: return "page";
            }
        }

        static boolean isOneOf(int kind, int wanted) {
            switch (wanted) {
                case PAGE: return true;
                case DEED: return kind == DEED || kind == WILL;
                case LETTER: return kind == LETTER || kind == VERSE;
                default: return kind == wanted;
            }
        }

        static int costs(int kind, int words) {
            int asPage = 1 + words / 20;
            int asDeed = asPage + 2;
            int asLetter = Math.max(1, asPage / 2);
            switch (kind) {
                case DEED: return asDeed;
                case LETTER: return asLetter;
                case TREATY: return 2 * asPage;
                case WILL: return asDeed - 1;
                case VERSE: return asLetter + 1;
                default: return asPage;
            }
        }

        static int takes(int kind, int dark) {
            int taken = 4 * dark;
            if (kind == DEED || kind == WILL) {
                taken += 10;
            } else if (kind == TREATY && dark >= 15) {
                taken = 5 * dark;
            } else if (kind == VERSE) {
                taken = Math.max(0, taken - 5);
            }
            return Math.min(Page.MOST_BLACK, taken);
        }

        static int fades(int kind, int sun, int read) {
            int asPage = sun == 1 ? 9 : 0;
            int asDeed = asPage / 2;
            int asLetter = asPage + 1;
            switch (kind) {
                case DEED: return asDeed;
                case LETTER: return asLetter;
                case WILL: return read == 0 ? 0 : asDeed;
                case VERSE: return asLetter + read / 4;
                default: return asPage;
            }
        }

        static int believed(int kind, int black, int read, int lamp) {
            if (black == 0) {
                return 0;
            }
            int asPage = black * lamp / 9;
            int asDeed = black > 50 ? asPage + 5 : asPage;
            int asLetter = Math.max(0, asPage - read);
            switch (kind) {
                case DEED: return asDeed;
                case LETTER: return asLetter;
                case TREATY: return lamp >= 5 ? black : 0;
                case WILL: return 2 * asDeed;
                case VERSE: return asLetter + lamp;
                default: return asPage;
            }
        }
    }

    /**
     * A page, and what it will be ON some nights. KIND, SUN and READ stay as they are while nights go, so
     * it fades by as much each day, and n days can be told at once.
     */
    private static final class Page {
        static final int MOST_WORDS = 99;
        static final int MOST_BLACK = 99;
        static final int MOST_READ = 9999;

        int kind;
        int words;
        int black;
        int sun;
        int read;

        void become(Page other) {
            kind = other.kind;
            words = other.words;
            black = other.black;
            sun = other.sun;
            read = other.read;
        }

        static int least(int what) {
            return what == 1 ? 1 : 0;
        }

        /** The most that what may be; -1, which leaves no number, if there is no such what. */
        static int most(int what) {
            switch (what) {
                case 1: return MOST_WORDS;
                case 2: return MOST_BLACK;
                case 3: return 1;
                case 4: return MOST_READ;
                default: return -1;
            }
        }

        int has(int what) {
            switch (what) {
                case 1: return words;
                case 2: return black;
                case 3: return sun;
                default: return read;
            }
        }

        void put(int what, int v) {
            switch (what) {
                case 1: words = v; break;
                case 2: black = v; break;
                case 3: sun = v; break;
                default: read = v;
            }
        }

        int blackOn(int n) {
            return faded(black, Kinds.fades(kind, sun, read), n);
        }

        int believedOn(int n, int lamp) {
            return believedAs(kind, sun, n, lamp);
        }

        /** BELIEVED ON n NIGHTS if it were of another KIND or lay elsewhere from now on. */
        int believedAs(int asKind, int withSun, int n, int lamp) {
            int left = faded(black, Kinds.fades(asKind, withSun, read), n);
            return Kinds.believed(asKind, left, read, lamp);
        }

        int firstWhite(int mostNights) {
            for (int n = 0; n <= mostNights; n++) {
                if (blackOn(n) == 0) {
                    return n;
                }
            }
            return -1;
        }

        int mostBelievedKind(int n, int lamp) {
            int best = 0;
            int most = -1;
            for (int k = 0; k < Kinds.KINDS; k++) {
                int believed = believedAs(k, sun, n, lamp);
                if (believed > most) {
                    best = k;
                    most = believed;
                }
            }
            return best;
        }

        int waysToFadeAs(Sheet told) {
            int ways = 0;
            for (int k = 0; k < Kinds.KINDS; k++) {
                int fades = Kinds.fades(k, sun, read);
                for (int first = 0; first <= MOST_BLACK; first++) {
                    if (tells(told, first, fades)) {
                        ways++;
                    }
                }
            }
            return ways;
        }

        private static boolean tells(Sheet told, int first, int fades) {
            for (int n = 0; n < told.length; n++) {
                if (told.numbers[n] != faded(first, fades, n)) {
                    return false;
                }
            }
            return true;
        }

        private static int faded(int first, int fades, int n) {
            return Math.max(0, first - n * fades);
        }
    }

    /** All that section 1 of the terms tells, but THE TAPE. */
    private static final class Scriptorium {
        static final int PLACES = 12;
        static final int MOST_DARK = 20;
        static final int MOST_NIGHT = 9999;
        static final int MOST_BROTHERS = 9;
        static final int MOST_INK = 999;
        static final int MOST_LAMP = 9;
        static final int THIMBLE = 9;
        static final int MOST_PAGES = 8;

        int night = 0;
        int brothers = 3;
        int buckets = 0;
        int ink = 5;
        int lamp = 5;
        int pageCount = 0;
        final int[] dark = new int[PLACES];
        final Page[] pages = new Page[MOST_PAGES];
        private final int[] sunTakes = new int[MOST_PAGES];

        Scriptorium() {
            for (int i = 0; i < PLACES; i++) {
                dark[i] = 4 + 5 * i % 13;
            }
            for (int p = 0; p < MOST_PAGES; p++) {
                pages[p] = new Page();
            }
        }

        void become(Scriptorium other) {
            night = other.night;
            brothers = other.brothers;
            buckets = other.buckets;
            ink = other.ink;
            lamp = other.lamp;
            pageCount = other.pageCount;
            System.arraycopy(other.dark, 0, dark, 0, PLACES);
            for (int p = 0; p < MOST_PAGES; p++) {
                pages[p].become(other.pages[p]);
            }
        }

        /** The most that what in the jar may be; -1, which leaves no number, if there is no such what. */
        static int mostInJar(int what) {
            switch (what) {
                case 0: return MOST_BROTHERS;
                case 1: return THIMBLE - 1;
                case 2: return MOST_INK;
                case 3: return MOST_LAMP;
                default: return -1;
            }
        }

        int jarHolds(int what) {
            switch (what) {
                case 0: return brothers;
                case 1: return buckets;
                case 2: return ink;
                default: return lamp;
            }
        }

        void fillJar(int what, int v) {
            switch (what) {
                case 0: brothers = v; break;
                case 1: buckets = v; break;
                case 2: ink = v; break;
                default: lamp = v;
            }
        }

        boolean hasPage(int page) {
            return page >= 0 && page < pageCount;
        }

        boolean isFull() {
            return pageCount >= MOST_PAGES;
        }

        boolean hasInkFor(int kind, int words) {
            return ink >= Kinds.costs(kind, words);
        }

        /** Asked only when isFull() isn't so; answers the new page's number. */
        int addPage(int kind, int words) {
            if (isFull()) {
                return -1;
            }
            Page p = pages[pageCount];
            p.kind = kind;
            p.words = words;
            p.sun = 0;
            spendInkOn(p);
            pageCount++;
            return pageCount - 1;
        }

        void spendInkOn(Page p) {
            ink -= Kinds.costs(p.kind, p.words);
            p.black = Kinds.takes(p.kind, darkOn(0));
            p.read = 0;
        }

        int darkOn(int n) {
            return dark[Math.floorMod(night + n, PLACES)];
        }

        private int darkTogether(int n) {
            int together = 0;
            for (int i = 0; i < n; i++) {
                together += darkOn(i);
            }
            return together;
        }

        // INK never lessens while nights go, so it is cut at its most after them all as well as after each.
        private int inkWith(int allBuckets) {
            return Math.min(MOST_INK, ink + allBuckets / THIMBLE);
        }

        int inkOn(int n, int withBrothers) {
            return inkWith(buckets + withBrothers * darkTogether(n));
        }

        void letGo(int n) {
            int allBuckets = buckets + brothers * darkTogether(n);
            ink = inkWith(allBuckets);
            buckets = allBuckets % THIMBLE;
            for (int p = 0; p < pageCount; p++) {
                pages[p].black = pages[p].blackOn(n);
            }
            night += n;
        }

        int notWhite() {
            int all = 0;
            for (int p = 0; p < pageCount; p++) {
                if (pages[p].black > 0) {
                    all |= 1 << p;
                }
            }
            return all;
        }

        int believedTogether(int n, int byLamp) {
            int together = 0;
            for (int p = 0; p < pageCount; p++) {
                together += pages[p].believedOn(n, byLamp);
            }
            return together;
        }

        int pagesInSun() {
            int together = 0;
            for (int p = 0; p < pageCount; p++) {
                together += pages[p].sun;
            }
            return together;
        }

        int wordsTogether() {
            int together = 0;
            for (int p = 0; p < pageCount; p++) {
                together += pages[p].words;
            }
            return together;
        }

        int firstWithInk(int v, int mostNights) {
            int allBuckets = buckets;
            for (int n = 0; n <= mostNights; n++) {
                if (inkWith(allBuckets) >= v) {
                    return n;
                }
                allBuckets += brothers * darkOn(n);
            }
            return -1;
        }

        int blackestNight(int kind, int words) {
            int costs = Kinds.costs(kind, words);
            int allBuckets = buckets;
            int best = -1;
            int blackest = -1;
            for (int n = 0; n < PLACES; n++) {
                int black = Kinds.takes(kind, darkOn(n));
                if (inkWith(allBuckets) >= costs && black > blackest) {
                    best = n;
                    blackest = black;
                }
                allBuckets += brothers * darkOn(n);
            }
            return best;
        }

        int bestShaded(int n) {
            measureSun(n);
            int best = -1;
            for (int p = 0; p < pageCount; p++) {
                if (pages[p].sun == 1 && (best < 0 || sunTakes[p] > sunTakes[best])) {
                    best = p;
                }
            }
            return best;
        }

        int fewestBrothers(int n, int v) {
            int together = darkTogether(n);
            for (int b = 0; b <= MOST_BROTHERS; b++) {
                if (inkWith(buckets + b * together) >= v) {
                    return b;
                }
            }
            return -1;
        }

        int leastLamp(int n, int v) {
            for (int l = 0; l <= MOST_LAMP; l++) {
                if (believedTogether(n, l) >= v) {
                    return l;
                }
            }
            return -1;
        }

        int mostWords(int kind) {
            for (int w = Page.MOST_WORDS; w >= 1; w--) {
                if (hasInkFor(kind, w)) {
                    return w;
                }
            }
            return -1;
        }

        int mostInSun(int n, int v) {
            int inShade = measureSun(n);
            int best = -1;
            for (int inSun = 0; inSun < 1 << pageCount; inSun++) {
                boolean isMore = best < 0 || Integer.bitCount(inSun) > Integer.bitCount(best);
                if (isMore && inShade - takenBySun(inSun) >= v) {
                    best = inSun;
                }
            }
            return best;
        }

        /** What all are BELIEVED ON n NIGHTS in the shade; sunTakes gets what the SUN takes of that from each. */
        private int measureSun(int n) {
            int together = 0;
            for (int p = 0; p < pageCount; p++) {
                int inShade = pages[p].believedAs(pages[p].kind, 0, n, lamp);
                sunTakes[p] = inShade - pages[p].believedAs(pages[p].kind, 1, n, lamp);
                together += inShade;
            }
            return together;
        }

        private int takenBySun(int inSun) {
            int together = 0;
            for (int p = 0; p < pageCount; p++) {
                if ((inSun >> p & 1) == 1) {
                    together += sunTakes[p];
                }
            }
            return together;
        }

        int blacken(Sheet from) {
            int came = 0;
            for (int p = 0; p < pageCount && p < from.length; p++) {
                long black = from.numbers[p];
                if (black >= 0 && black <= Page.MOST_BLACK) {
                    pages[p].black = (int) black;
                    came++;
                }
            }
            return came;
        }
    }

    /** A row of numbers; of 0 bits while it is MISSING. */
    private static final class Sheet {
        static final int MOST = 40;

        int bits = 0;
        int length = 0;
        final long[] numbers = new long[MOST];

        static boolean mayHaveBits(int bits) {
            return bits == 0 || bits == 8 || bits == 16 || bits == 64;
        }

        boolean isMissing() {
            return bits == 0;
        }

        void layOut(int withBits, int n) {
            bits = withBits;
            length = withBits == 0 ? 0 : n;
            Arrays.fill(numbers, 0L);
        }

        long lowestBits(long v) {
            switch (bits) {
                case 8: return (byte) v;
                case 16: return (short) v;
                default: return v;
            }
        }

        // from + n could wrap around, length - n can't once n is known to be none below 0.
        boolean hasRow(int from, int n) {
            return from >= 0 && n >= 0 && from <= length - n;
        }
    }

    /** THE TAPE, and the TOKEN on it that is looked at. */
    private static final class Tape {
        static final int MOST = 120;
        static final int END = 0;
        static final int WORD = 1;
        static final int NUMBER = 2;
        static final int SIGN = 3;
        static final int OTHER = 4;
        private static final int MOST_NUMBER = 999;

        int length = 0;
        int token = END;
        int start = 0;
        private int next = 0;
        private int value = 0;
        private final int[] bytes = new int[MOST];

        void addByte(int b) {
            if (length < MOST) {
                bytes[length] = b;
                length++;
            }
        }

        void toFirstToken() {
            next = 0;
            toNextToken();
        }

        void toNextToken() {
            while (next < length && bytes[next] == ' ') {
                next++;
            }
            start = next;
            if (next >= length) {
                token = END;
            } else if (isLetter(bytes[next])) {
                token = WORD;
                passLetters();
            } else if (isDigit(bytes[next])) {
                token = NUMBER;
                passDigits();
            } else {
                token = bytes[next] == ';' ? SIGN : OTHER;
                next++;
            }
        }

        private void passLetters() {
            while (next < length && isLetter(bytes[next])) {
                next++;
            }
        }

        // Held just above the most, so that a long row of digits can't wrap around to a number that may be.
        private void passDigits() {
            value = 0;
            while (next < length && isDigit(bytes[next])) {
                value = Math.min(MOST_NUMBER + 1, 10 * value + bytes[next] - '0');
                next++;
            }
        }

        boolean isWord(String name) {
            if (token != WORD || next - start != name.length()) {
                return false;
            }
            for (int i = 0; i < name.length(); i++) {
                if (bytes[start + i] != name.charAt(i)) {
                    return false;
                }
            }
            return true;
        }

        /** The NUMBER here, if one stands here that is none below least and none above most, else -1. */
        int number(int least, int most) {
            return token == NUMBER && isWithin(value, least, most) ? value : -1;
        }

        private static boolean isLetter(int b) {
            return b >= 'a' && b <= 'z';
        }

        private static boolean isDigit(int b) {
            return b >= '0' && b <= '9';
        }
    }

    /**
     * Tells THE TEXT to a scriptorium. Each method goes past what it has understood, and stays at the first
     * TOKEN that can't stand there.
     */
    private static final class Telling {
        /** How many ITEMS, or with a FAULT -1 less its place. */
        static int tell(Tape tape, Scriptorium to) {
            tape.toFirstToken();
            for (int items = 1; items <= Tape.MOST; items++) {
                boolean stands = tellItem(tape, to);
                if (stands && tape.token == Tape.END) {
                    return items;
                }
                if (!stands || tape.token != Tape.SIGN) {
                    break;
                }
                tape.toNextToken();
            }
            return -1 - tape.start;
        }

        private static boolean tellItem(Tape tape, Scriptorium to) {
            for (int k = 0; k < Kinds.KINDS; k++) {
                if (tape.isWord(Kinds.nameOf(k))) {
                    return tellPage(tape, to, k);
                }
            }
            if (tape.isWord("dark")) {
                return tellDark(tape, to);
            }
            if (tape.isWord("brothers")) {
                return tellJar(tape, to, 0);
            }
            if (tape.isWord("ink")) {
                return tellJar(tape, to, 2);
            }
            return tape.isWord("lamp") && tellJar(tape, to, 3);
        }

        private static boolean tellPage(Tape tape, Scriptorium to, int kind) {
            if (to.isFull()) {
                return false;
            }
            tape.toNextToken();
            int words = tape.number(1, Page.MOST_WORDS);
            if (words < 0 || !to.hasInkFor(kind, words)) {
                return false;
            }
            int page = to.addPage(kind, words);
            tape.toNextToken();
            if (tape.isWord("sun") && to.hasPage(page)) {
                to.pages[page].sun = 1;
                tape.toNextToken();
            }
            return true;
        }

        private static boolean tellDark(Tape tape, Scriptorium to) {
            tape.toNextToken();
            int place = tape.number(0, Scriptorium.PLACES - 1);
            if (place < 0) {
                return false;
            }
            tape.toNextToken();
            int dark = tape.number(0, Scriptorium.MOST_DARK);
            if (dark < 0) {
                return false;
            }
            to.dark[place] = dark;
            tape.toNextToken();
            return true;
        }

        private static boolean tellJar(Tape tape, Scriptorium to, int what) {
            tape.toNextToken();
            int v = tape.number(0, Scriptorium.mostInJar(what));
            if (v < 0) {
                return false;
            }
            to.fillJar(what, v);
            tape.toNextToken();
            return true;
        }
    }
}
