/** Promises 1 to 4: the new object and the jar. */
public final class JarTest {
    private static final int[] FIRST_DARK = {4, 9, 14, 6, 11, 16, 8, 13, 5, 10, 15, 7};

    public static void main(String[] args) {
        newObject();
        jar();
        dark();
        now();
        Due.end("JarTest");
    }

    private static void newObject() {
        InkNights x = new InkNights();
        int[] first = {0, 4, 3, 0, 5, 5, 0, 0};
        for (int what = 0; what < first.length; what++) {
            Due.is("1 now(" + what + ")", x.now(what), first[what]);
        }
        for (int what = 0; what < 4; what++) {
            Due.is("1 count(" + what + ")", x.count(what), 0);
        }
        Due.is("1 status(-1)", x.status(-1), 0);
        Due.is("1 tear()", x.tear(), 0);
        Due.is("1 undo()", x.undo(), Due.NONE);
        Due.is("1 wipe()", x.wipe(), 0);
        for (int s = 0; s < 4; s++) {
            Due.is("1 lays(" + s + ")", x.lays(s), Due.MISSING);
        }
        for (int place = 0; place < 12; place++) {
            Due.is("1 dark(" + place + ", 0)", x.dark(place, 0), FIRST_DARK[place]);
        }
        Due.is("1 another object's dark(5, 0)", new InkNights().dark(5, 0), 16);
    }

    private static void jar() {
        InkNights x = new InkNights();
        int[] first = {3, 0, 5, 5};
        int[] most = {9, 8, 999, 9};
        int[] seen = {2, 3, 4, 5};
        for (int what = 0; what < 4; what++) {
            Due.is("2 jar above", x.jar(what, most[what] + 1), Due.BEYOND);
            Due.is("2 jar below", x.jar(what, -1), Due.BEYOND);
            Due.is("2 jar unchanged", x.now(seen[what]), first[what]);
            Due.is("2 jar most", x.jar(what, most[what]), first[what]);
            Due.is("2 jar seen", x.now(seen[what]), most[what]);
            Due.is("2 jar 0", x.jar(what, 0), most[what]);
            Due.is("2 jar seen 0", x.now(seen[what]), 0);
            Due.is("2 jar 1", x.jar(what, 1), 0);
        }
        for (int what = 0; what < 4; what++) {
            Due.is("2 jar kept apart", x.now(seen[what]), 1);
        }
        Due.is("2 jar(4, 0)", x.jar(4, 0), Due.BEYOND);
        Due.is("2 jar(-1, 0)", x.jar(-1, 0), Due.BEYOND);
        Due.is("2 status(0)", x.status(0), 10);
        Due.is("2 status(-1)", x.status(-1), 10);
    }

    private static void dark() {
        InkNights x = new InkNights();
        for (int place = 0; place < 12; place++) {
            Due.is("3 dark above", x.dark(place, 21), Due.BEYOND);
            Due.is("3 dark below", x.dark(place, -1), Due.BEYOND);
            Due.is("3 dark most", x.dark(place, 20), FIRST_DARK[place]);
            Due.is("3 dark to place", x.dark(place, place), 20);
        }
        for (int place = 0; place < 12; place++) {
            Due.is("3 dark of place", x.dark(place, 0), place);
        }
        Due.is("3 dark(12, 0)", x.dark(12, 0), Due.BEYOND);
        Due.is("3 dark(-1, 0)", x.dark(-1, 0), Due.BEYOND);
        Due.is("3 status(0)", x.status(0), 26);
    }

    private static void now() {
        InkNights x = Due.told("dark 0 20; page 1; treaty 1; will 1; verse 1");
        Due.is("4 now(0)", x.now(0), 0);
        Due.is("4 now(1)", x.now(1), 20);
        // A PAGE costs 1, a TREATY 2, a WILL 2, a VERSE 2.
        Due.is("4 now(4)", x.now(4), 992);
        Due.is("4 now(6)", x.now(6), 15);
        // BLACK 80, 99, 90, 75: 44, 99, twice 55, 41 and 5.
        Due.is("4 now(7)", x.now(7), 44 + 99 + 110 + 46);
        Due.is("4 jar(3, 0)", x.jar(3, 0), 5);
        // By no LAMP a DEED above 50 is still believed 5, and a WILL twice that.
        Due.is("4 now(7) by none", x.now(7), 10);
        Due.is("4 now(5)", x.now(5), 0);
        x.set(1, 2, 0);
        Due.is("4 now(6) without 1", x.now(6), 13);
        x.set(0, 2, 0);
        x.set(3, 2, 1);
        Due.is("4 now(6) without 0", x.now(6), 12);
        x.set(0, 2, 90);
        x.set(0, 3, 1);
        x.jar(3, 9);
        // 90 now, not the 81 of tomorrow; 0, twice 95 and 1 less 0, and 9.
        Due.is("4 now(7) in the SUN", x.now(7), 90 + 190 + 10);
        x.nights(13);
        Due.is("4 now(0) then", x.now(0), 13);
        Due.is("4 now(1) then", x.now(1), 9);
        // 3 brothers, 134 dark in the first twelve (20 for 4) and 20 again: 462 buckets.
        Due.is("4 now(3) then", x.now(3), 3 * (118 + 16 + 20) % 9);
        Due.is("4 now(2)", x.now(2), 3);
        Due.is("4 now(8)", x.now(8), Due.BEYOND);
        Due.is("4 now(-1)", x.now(-1), Due.BEYOND);
        Due.is("4 status(0)", x.status(0), 2);
    }
}
