import java.util.ArrayList;
import java.util.List;

/**
 * What the tests of bounds share: states to begin from, and calls held against a twin that never had them.
 * No object gets more than 512 calls.
 */
final class Bounds {
    static final int MIN = Integer.MIN_VALUE;
    static final int MAX = Integer.MAX_VALUE;
    /** 120 bytes that are a text of 7 ITEMS. */
    static final String LONGEST_TEXT = "lamp 8;dark 0 20;brothers 0;ink 77;dark 11 0;lamp 3;dark 3 1" + " ".repeat(60);

    interface State {
        InkNights make();
    }

    interface Call {
        long on(InkNights x);
    }

    interface CallWith {
        long on(InkNights x, int v);
    }

    private Bounds() {
    }

    /**
     * NIGHT 13 (DARK 9), BROTHERS 2, BUCKETS 4, INK 50, LAMP 6; DARK of place 5 is 19. Five PAGES: a PAGE of 30
     * WORDS, BLACK 90, in the SUN; a DEED of 45, BLACK 60; a WILL of 60, BLACK 51, in the SUN, READ 2; a VERSE of
     * 99, BLACK 40, READ 6; a TREATY of 20, BLACK 30. They are BELIEVED 60, 45, 78, 26 and 30 (239 together), and
     * FADE by 9, 0, 4, 2 and 0. SHEET 0: three numbers of 8 bits (7, -8, 99); 1: 40 of 16; 2: none of 64; 3 MISSING.
     * Something is kept, THE TAPE has 15 bytes, and findings have been told.
     */
    static InkNights rich() {
        InkNights x = new InkNights();
        x.jar(2, 100);
        int[][] pages = {{0, 30, 90, 1, 0}, {1, 45, 60, 0, 0}, {4, 60, 51, 1, 2}, {5, 99, 40, 0, 6}, {3, 20, 30, 0, 0}};
        for (int[] page : pages) {
            x.scribe(page[0], page[1]);
        }
        x.image();
        x.nights(13);
        for (int page = 0; page < pages.length; page++) {
            for (int what = 2; what <= 4; what++) {
                x.set(page, what, pages[page][what]);
            }
        }
        int[] jar = {2, 4, 50, 6};
        for (int what = 0; what < jar.length; what++) {
            x.jar(what, jar[what]);
        }
        x.dark(5, 19);
        x.sheet(0, 8, 3);
        x.write(0, 0, 7);
        x.write(0, 1, -8);
        x.write(0, 2, 99);
        x.sheet(1, 16, 40);
        x.book(1, 0);
        x.sheet(2, 64, 0);
        Due.feed(x, "lamp 2;dark 3 7");
        x.jar(9, 9);
        x.as(0, 1);
        x.lays(3);
        return x;
    }

    /**
     * Eight PAGES (of 1 WORD, BLACK 10, 20, .. 80, the last in the SUN), THE TAPE has 120 bytes, INK 100. SHEETS of 40
     * numbers, 0 and 1 of 8 bits, 2 and 3 of 64. Something is kept.
     */
    static InkNights full() {
        InkNights x = new InkNights();
        x.jar(2, 108);
        x.image();
        for (int page = 0; page < 8; page++) {
            x.scribe(0, 1);
            x.set(page, 2, 10 * page + 10);
        }
        x.set(7, 3, 1);
        for (int s = 0; s < 4; s++) {
            x.sheet(s, s < 2 ? 8 : 64, 40);
        }
        Due.feed(x, LONGEST_TEXT);
        return x;
    }

    /** NIGHT 9999 (place 3, DARK 6), without BROTHERS; two PAGES BLACK 16 and 26, INK 1; something is kept. */
    static InkNights last() {
        InkNights x = withoutPages();
        x.image();
        x.scribe(0, 1);
        x.scribe(1, 1);
        x.jar(0, 0);
        for (int i = 0; i < 99; i++) {
            x.nights(100);
        }
        x.nights(99);
        return x;
    }

    /** No PAGES, but SHEET 1 with two numbers of 8 bits. */
    static InkNights withoutPages() {
        InkNights x = new InkNights();
        x.sheet(1, 8, 2);
        return x;
    }

    /** The call answers what is due. */
    static void taken(String what, State from, Call call, long due) {
        Due.is(what, call.on(from.make()), due);
    }

    /** The call answers the finding, and nothing is otherwise than in a twin without it but status(). */
    static void refused(String what, State from, Call call, int finding) {
        InkNights x = from.make();
        InkNights twin = from.make();
        Due.is(what, call.on(x), finding);
        for (int which = -1; which <= 6; which++) {
            int more = which == -1 || which == -1000000001 - finding ? 1 : 0;
            Due.is(what + ", then status(" + which + ")", x.status(which), twin.status(which) + more);
        }
        sameBut(what, x, twin);
    }

    /** The call answers what is due, and nothing is otherwise than in a twin without it. */
    static void changesNothing(String what, State from, Call call, long due) {
        InkNights x = from.make();
        InkNights twin = from.make();
        Due.is(what, call.on(x), due);
        Due.is(what + ", then status(-1)", x.status(-1), twin.status(-1));
        sameBut(what, x, twin);
    }

    /**
     * The last values that are taken, with what they answer, and the first that are BEYOND, and the least and the
     * greatest int.
     */
    static void range(String what, State from, CallWith call, int least, long dueLeast, int most, long dueMost) {
        taken(what + " of " + least, from, x -> call.on(x, least), dueLeast);
        taken(what + " of " + most, from, x -> call.on(x, most), dueMost);
        for (int v : new int[] {MIN, MIN + 1, least - 1, most + 1, MAX - 1, MAX}) {
            refused(what + " of " + v, from, x -> call.on(x, v), Due.BEYOND);
        }
    }

    /** The page numbers: none while there are no PAGES, 0 to 4 of five, 0 to 7 of eight. */
    static void pages(String what, CallWith call) {
        for (int v : new int[] {MIN, -1, 0, 1, 7, 8, MAX}) {
            refused(what + " of " + v + " with no pages", Bounds::withoutPages, x -> call.on(x, v), Due.BEYOND);
        }
        for (int v : new int[] {MIN, -1, 5, 6, 7, 8, MAX}) {
            refused(what + " of " + v + " with five", Bounds::rich, x -> call.on(x, v), Due.BEYOND);
        }
        for (int v : new int[] {MIN, -1, 8, 9, 40, MAX}) {
            refused(what + " of " + v + " with eight", Bounds::full, x -> call.on(x, v), Due.BEYOND);
        }
        Due.holds(what + " of 4 with five", call.on(rich(), 4) > Due.BEYOND);
        Due.holds(what + " of 7 with eight", call.on(full(), 7) > Due.BEYOND);
    }

    private static void sameBut(String what, InkNights x, InkNights twin) {
        List<Long> got = seen(x);
        List<Long> due = seen(twin);
        Due.holds(what + ", then all else is as it was: " + got + ", due is " + due, got.equals(due));
    }

    /** All that can be seen of an object but status(); it is spent with that. */
    static List<Long> seen(InkNights x) {
        List<Long> seen = new ArrayList<>();
        for (int what = 0; what < 4; what++) {
            seen.add((long) x.count(what));
        }
        addScriptorium(seen, x);
        seen.add((long) x.text());
        addJarAndDark(seen, x);
        addSheets(seen, x);
        seen.add((long) x.undo());
        addScriptorium(seen, x);
        seen.add((long) x.tear());
        return seen;
    }

    private static void addScriptorium(List<Long> seen, InkNights x) {
        int pages = x.count(0);
        for (int page = 0; page < pages; page++) {
            for (int what = 0; what <= 4; what++) {
                seen.add((long) x.of(page, what));
            }
        }
        addJarAndDark(seen, x);
    }

    private static void addJarAndDark(List<Long> seen, InkNights x) {
        for (int what = 0; what <= 7; what++) {
            seen.add((long) x.now(what));
        }
        for (int place = 0; place < 12; place++) {
            int dark = x.dark(place, 0);
            seen.add((long) dark);
            x.dark(place, dark);
        }
    }

    // Copies of nothing tell which sheets are MISSING; no number of the states here is -1000000001.
    private static void addSheets(List<Long> seen, InkNights x) {
        for (int s = 0; s < 4; s++) {
            for (int t = 0; t <= s; t++) {
                seen.add((long) x.copy(s, 0, t, 0, 0));
            }
            long was = 0;
            for (int i = 0; i <= 40 && was > Due.BEYOND; i++) {
                was = x.write(s, i, 0x0123456789abcdefL);
                seen.add(was);
            }
            seen.add(x.write(s, 0, 0));
        }
        addBits(seen, x);
    }

    // A sheet of no numbers shows its bits only beside one of as many.
    private static void addBits(List<Long> seen, InkNights x) {
        for (int bits : new int[] {8, 16, 64}) {
            x.sheet(3, bits, 0);
            for (int s = 0; s < 3; s++) {
                seen.add((long) x.copy(s, 0, 3, 0, 0));
            }
        }
    }
}
