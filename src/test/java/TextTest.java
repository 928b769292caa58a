/** Promises 25 to 27: the text. */
public final class TextTest {
    public static void main(String[] args) {
        feed();
        wipe();
        items();
        faults();
        faultChangesNothing();
        faultsOfState();
        Due.end("TextTest");
    }

    private static void feed() {
        InkNights x = new InkNights();
        Due.is("25 feed(32, 0)", x.feed(32, 0), Due.BEYOND);
        Due.is("25 feed(32, 5)", x.feed(32, 5), Due.BEYOND);
        Due.is("25 feed(32, -1)", x.feed(32, -1), Due.BEYOND);
        Due.is("25 count(1)", x.count(1), 0);
        // The highest of the lowest three first: "ink", and " 7".
        Due.is("25 feed of ink", x.feed(0x7f696e6b, 3), 3);
        Due.is("25 feed of 7", x.feed(0xffff2037, 2), 5);
        Due.is("25 text", x.text(), 1);
        Due.is("25 now(4)", x.now(4), 7);
        for (int i = 1; i <= 29; i++) {
            Due.is("25 feed of 4", x.feed(0x20202020, 4), 4 * i);
        }
        Due.is("25 feed to 119", x.feed(0x202020, 3), 119);
        Due.is("25 feed past 120", x.feed(32, 2), Due.FULL);
        Due.is("25 count(1) of 119", x.count(1), 119);
        Due.is("25 BEYOND ahead of FULL", x.feed(32, 5), Due.BEYOND);
        Due.is("25 feed to 120", x.feed(32, 1), 120);
        Due.is("25 feed to 121", x.feed(32, 1), Due.FULL);
        Due.is("25 text of 120 blanks", x.text(), -121);
        Due.is("25 status(1)", x.status(1), 2);
        InkNights y = new InkNights();
        y.feed(-1, 4);
        Due.is("25 bytes of 255", y.text(), -1);
    }

    private static void wipe() {
        InkNights x = new InkNights();
        Due.feed(x, "ink 9");
        Due.is("26 wipe()", x.wipe(), 5);
        Due.is("26 count(1)", x.count(1), 0);
        Due.is("26 wipe() again", x.wipe(), 0);
        Due.feed(x, "lamp 9");
        Due.is("26 text", x.text(), 1);
        Due.is("26 ink is as it was", x.now(4), 5);
    }

    private static void items() {
        InkNights x = new InkNights();
        Due.feed(x, " ink 30;dark0 20;page19;deed 1sun ;letter 99 sun; dark 0 1;treaty 20; brothers 9;lamp 0");
        Due.is("27 text", x.text(), 9);
        Due.is("27 the tape is empty", x.count(1), 0);
        // 1, 3, 2 and 4 of 30.
        int[] now = {0, 1, 9, 0, 20, 0};
        for (int what = 0; what < now.length; what++) {
            Due.is("27 now(" + what + ")", x.now(what), now[what]);
        }
        int[][] pages = {{0, 19, 80, 0, 0}, {1, 1, 90, 1, 0}, {2, 99, 80, 1, 0}, {3, 20, 4, 0, 0}};
        for (int page = 0; page < 4; page++) {
            for (int what = 0; what < 5; what++) {
                Due.is("27 of(" + page + ", " + what + ")", x.of(page, what), pages[page][what]);
            }
        }
        Due.feed(x, "will 1;verse 00002 sun;dark 0 0;brothers 0;ink 0");
        Due.is("27 more items", x.text(), 5);
        Due.is("27 dark 0 0", x.now(1), 0);
        Due.is("27 brothers 0", x.now(2), 0);
        Due.is("27 ink 0", x.now(4), 0);
        Due.is("27 count(0)", x.count(0), 6);
        Due.is("27 of(4, 0)", x.of(4, 0), 4);
        Due.is("27 of(5, 0)", x.of(5, 0), 5);
        Due.is("27 of(5, 1)", x.of(5, 1), 2);
        Due.is("27 of(5, 2)", x.of(5, 2), 0);
        Due.is("27 status(-1)", x.status(-1), 0);
    }

    private static void fault(String text, int place) {
        InkNights x = new InkNights();
        Due.feed(x, text);
        Due.is("27 '" + text + "'", x.text(), -1 - place);
        Due.is("27 the tape after '" + text + "'", x.count(1), 0);
        Due.is("27 no finding after '" + text + "'", x.status(-1), 0);
    }

    private static void faults() {
        fault("", 0);
        fault("   ", 3);
        fault(";", 0);
        fault("ink", 3);
        fault("ink  ", 5);
        fault("ink 5;", 6);
        fault("ink 5; ", 7);
        fault("ink 5;;ink 5", 6);
        fault("ink 5 5", 6);
        fault("ink 1000", 4);
        fault("ink 4294967297", 4);
        fault("ink 18446744073709551617", 4);
        fault("ink ;", 4);
        fault("ink ink", 4);
        fault("ink 5 sun", 6);
        fault("inks 5", 0);
        fault("inc 5", 0);
        fault("jnk 5", 0);
        fault("inkz 5", 0);
        fault("inka 5", 0);
        fault("Ink 5", 0);
        fault("ink\t5", 3);
        fault("ink\n5", 3);
        fault("ink 5\u0000", 5);
        fault("ink -5", 4);
        fault("ink 5,lamp 5", 5);
        fault("5", 0);
        fault("sun", 0);
        fault("buckets 5", 0);
        fault("night 5", 0);
        fault("page", 4);
        fault("page 0", 5);
        fault("page 100", 5);
        fault("page sun", 5);
        fault("page 1 moon", 7);
        fault("page 1 sun sun", 11);
        fault("page 1 sun 2", 11);
        fault("page 1 page 1", 7);
        fault("pagesun 1", 0);
        fault("page 1 sunpage 1", 7);
        fault("dark", 4);
        fault("dark 12 0", 5);
        fault("dark 11", 7);
        fault("dark 11 21", 8);
        fault("dark 11;", 7);
        fault("dark 1120", 5);
        fault("dark 1 2 3", 9);
        fault("brothers 10", 9);
        fault("lamp 10", 5);
        fault("lamp 9;lamp 9;lamp", 18);
        fault("ink 5;deed 60", 11);
        fault("deed 59;letter 1", 15);
        fault("ink 1;treaty 1;ink 9", 13);
        fault("#", 0);
        fault("ink 5 {", 6);
        fault("ink 5`", 5);
        fault("ink 5:", 5);
        fault("ink 5/", 5);
    }

    private static void faultChangesNothing() {
        InkNights x = new InkNights();
        x.scribe(0, 1);
        Due.feed(x, "ink 99;dark 0 1;brothers 1;lamp 1;deed 7 sun;page 0");
        Due.is("27 a fault", x.text(), -51);
        int[] now = {0, 4, 3, 0, 4, 5, 1, 8};
        for (int what = 0; what < now.length; what++) {
            Due.is("27 after a fault now(" + what + ")", x.now(what), now[what]);
        }
        Due.is("27 after a fault count(0)", x.count(0), 1);
        Due.is("27 after a fault count(1)", x.count(1), 0);
        Due.is("27 after a fault of(0, 0)", x.of(0, 0), 0);
    }

    private static void faultsOfState() {
        InkNights x = Due.told("page 1;page 1;page 1;page 1;page 1;page 1;page 1;page 1");
        Due.feed(x, "ink 5; letter 0");
        Due.is("27 a 9th: its name", x.text(), -8);
        Due.feed(x, "letter 1");
        Due.is("27 a 9th first", x.text(), -1);
        Due.feed(x, "ink 5; lamp 3");
        Due.is("27 others may stand", x.text(), 2);
        InkNights y = new InkNights();
        Due.feed(y, "ink 8;page 1;page 1;page 1;page 1;page 1;page 1;page 1;page 1;page 1");
        Due.is("27 a 9th in one text", y.text(), -1 - 62);
        Due.is("27 no page", y.count(0), 0);
        StringBuilder most = new StringBuilder("ink 0");
        for (int i = 0; i < 19; i++) {
            most.append(";ink 0");
        }
        Due.feed(y, most.toString());
        Due.is("27 twenty items", y.text(), 20);
        Due.is("27 now(4)", y.now(4), 0);
    }
}
