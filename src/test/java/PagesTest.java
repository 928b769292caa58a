/** Promises 5 to 11: pages. */
public final class PagesTest {
    public static void main(String[] args) {
        scribe();
        costs();
        takes();
        fades();
        believed();
        wrongOf();
        set();
        turn();
        as();
        looks();
        over();
        Due.end("PagesTest");
    }

    private static void scribe() {
        InkNights x = new InkNights();
        Due.is("5 scribe(-1, 1)", x.scribe(-1, 1), Due.BEYOND);
        Due.is("5 scribe(6, 1)", x.scribe(6, 1), Due.BEYOND);
        Due.is("5 scribe(0, 0)", x.scribe(0, 0), Due.BEYOND);
        Due.is("5 scribe(0, 100)", x.scribe(0, 100), Due.BEYOND);
        // A DEED of 60 words costs 6, of 59 5, which is all there is.
        Due.is("5 scribe(1, 60)", x.scribe(1, 60), Due.STATE);
        Due.is("5 nothing is spent", x.now(4), 5);
        Due.is("5 no page", x.count(0), 0);
        Due.is("5 scribe(1, 59)", x.scribe(1, 59), 0);
        Due.is("5 all is spent", x.now(4), 0);
        int[] page = {1, 59, 26, 0, 0};
        for (int what = 0; what < page.length; what++) {
            Due.is("5 of(0, " + what + ")", x.of(0, what), page[what]);
        }
        Due.is("5 scribe(2, 1)", x.scribe(2, 1), Due.STATE);
        x.jar(2, 7);
        for (int i = 1; i < 8; i++) {
            Due.is("5 scribe(0, 1)", x.scribe(0, 1), i);
        }
        Due.is("5 ahead of STATE", x.scribe(0, 1), Due.FULL);
        Due.is("5 ahead of FULL", x.scribe(0, 0), Due.BEYOND);
        Due.is("5 ahead of FULL", x.scribe(6, 1), Due.BEYOND);
        Due.is("5 count(0)", x.count(0), 8);
        Due.is("5 status(0)", x.status(0), 6);
        Due.is("5 status(1)", x.status(1), 1);
        Due.is("5 status(4)", x.status(4), 2);
        newPageIsNew();
    }

    private static void newPageIsNew() {
        InkNights x = Due.told("page 9");
        x.image();
        x.scribe(5, 50);
        x.set(1, 3, 1);
        x.set(1, 4, 7);
        x.undo();
        x.scribe(3, 5);
        int[] page = {3, 5, 16, 0, 0};
        for (int what = 0; what < page.length; what++) {
            Due.is("5 a page where one was: of(1, " + what + ")", x.of(1, what), page[what]);
        }
    }

    private static void costs() {
        int[] words = {1, 19, 20, 39, 40, 60, 80, 99};
        int[][] due = {
            {1, 1, 2, 2, 3, 4, 5, 5}, {3, 3, 4, 4, 5, 6, 7, 7}, {1, 1, 1, 1, 1, 2, 2, 2},
            {2, 2, 4, 4, 6, 8, 10, 10}, {2, 2, 3, 3, 4, 5, 6, 6}, {2, 2, 2, 2, 2, 3, 3, 3}};
        InkNights x = Due.told("page 1");
        for (int kind = 0; kind < 6; kind++) {
            x.turn(0, kind);
            for (int i = 0; i < words.length; i++) {
                x.set(0, 1, words[i]);
                Due.is("6 of(0, 5) kind " + kind + " words " + words[i], x.of(0, 5), due[kind][i]);
            }
        }
    }

    private static void takes() {
        int[] darks = {0, 1, 2, 14, 15, 19, 20};
        int[][] due = {
            {0, 4, 8, 56, 60, 76, 80}, {10, 14, 18, 66, 70, 86, 90}, {0, 4, 8, 56, 60, 76, 80},
            {0, 4, 8, 56, 75, 95, 99}, {10, 14, 18, 66, 70, 86, 90}, {0, 0, 3, 51, 55, 71, 75}};
        InkNights x = Due.told("page 1");
        for (int kind = 0; kind < 6; kind++) {
            x.turn(0, kind);
            for (int i = 0; i < darks.length; i++) {
                x.dark(0, darks[i]);
                Due.is("6 of(0, 6) kind " + kind + " dark " + darks[i], x.of(0, 6), due[kind][i]);
            }
        }
    }

    private static void fades() {
        int[] reads = {0, 1, 3, 4, 9, 9999};
        int[][] inShade = {
            {0, 0, 0, 0, 0, 0}, {0, 0, 0, 0, 0, 0}, {1, 1, 1, 1, 1, 1},
            {0, 0, 0, 0, 0, 0}, {0, 0, 0, 0, 0, 0}, {1, 1, 1, 2, 3, 2500}};
        int[][] inSun = {
            {9, 9, 9, 9, 9, 9}, {4, 4, 4, 4, 4, 4}, {10, 10, 10, 10, 10, 10},
            {9, 9, 9, 9, 9, 9}, {0, 4, 4, 4, 4, 4}, {10, 10, 10, 11, 12, 2509}};
        InkNights x = Due.told("page 1");
        for (int kind = 0; kind < 6; kind++) {
            x.turn(0, kind);
            for (int i = 0; i < reads.length; i++) {
                x.set(0, 4, reads[i]);
                x.set(0, 3, 0);
                Due.is("6 of(0, 7) in the shade " + kind, x.of(0, 7), inShade[kind][i]);
                x.set(0, 3, 1);
                Due.is("6 of(0, 7) in the sun " + kind, x.of(0, 7), inSun[kind][i]);
            }
        }
    }

    private static void believed() {
        // Rows of BLACK, READ, LAMP, and what is due of the six kinds.
        int[][] rows = {
            {0, 0, 9, 0, 0, 0, 0, 0, 0},
            {50, 0, 5, 27, 27, 27, 50, 54, 32},
            {51, 0, 5, 28, 33, 28, 51, 66, 33},
            {51, 3, 4, 22, 27, 19, 0, 54, 23},
            {51, 40, 4, 22, 27, 0, 0, 54, 4},
            {99, 0, 9, 99, 104, 99, 99, 208, 108},
            {99, 0, 0, 0, 5, 0, 0, 10, 0},
            {1, 0, 8, 0, 0, 0, 1, 0, 8}};
        InkNights x = Due.told("page 1");
        for (int[] row : rows) {
            x.set(0, 2, row[0]);
            x.set(0, 4, row[1]);
            x.jar(3, row[2]);
            for (int kind = 0; kind < 6; kind++) {
                x.turn(0, kind);
                Due.is("6 of(0, 8) kind " + kind + " black " + row[0] + " lamp " + row[2], x.of(0, 8), row[3 + kind]);
            }
        }
    }

    private static void wrongOf() {
        InkNights x = Due.told("page 1; deed 2");
        Due.is("6 of(2, 0)", x.of(2, 0), Due.BEYOND);
        Due.is("6 of(-1, 0)", x.of(-1, 0), Due.BEYOND);
        Due.is("6 of(0, 9)", x.of(0, 9), Due.BEYOND);
        Due.is("6 of(0, -1)", x.of(0, -1), Due.BEYOND);
        Due.is("6 of(1, 0)", x.of(1, 0), 1);
        Due.is("6 status(-1)", x.status(-1), 4);
    }

    private static void set() {
        InkNights x = Due.told("page 7; page 8");
        int[] first = {0, 8, 16, 0, 0};
        int[] least = {0, 1, 0, 0, 0};
        int[] most = {0, 99, 99, 1, 9999};
        for (int what = 1; what <= 4; what++) {
            Due.is("7 set above", x.set(1, what, most[what] + 1), Due.BEYOND);
            Due.is("7 set below", x.set(1, what, least[what] - 1), Due.BEYOND);
            Due.is("7 set unchanged", x.of(1, what), first[what]);
            Due.is("7 set most", x.set(1, what, most[what]), first[what]);
            Due.is("7 set least", x.set(1, what, least[what]), most[what]);
            Due.is("7 set seen", x.of(1, what), least[what]);
        }
        Due.is("7 another page", x.of(0, 1), 7);
        Due.is("7 another page", x.of(0, 2), 16);
        Due.is("7 set(0, 0, 1)", x.set(0, 0, 1), Due.BEYOND);
        Due.is("7 set(0, 5, 0)", x.set(0, 5, 0), Due.BEYOND);
        Due.is("7 set(2, 1, 1)", x.set(2, 1, 1), Due.BEYOND);
        Due.is("7 set(-1, 1, 1)", x.set(-1, 1, 1), Due.BEYOND);
        Due.is("7 status(0)", x.status(0), 12);
    }

    private static void turn() {
        InkNights x = Due.told("page 7; verse 8");
        Due.is("8 turn(1, 3)", x.turn(1, 3), 5);
        Due.is("8 of(1, 0)", x.of(1, 0), 3);
        Due.is("8 of(1, 2)", x.of(1, 2), 11);
        Due.is("8 turn(1, 3) again", x.turn(1, 3), 3);
        Due.is("8 turn(1, 0)", x.turn(1, 0), 3);
        Due.is("8 turn(1, 6)", x.turn(1, 6), Due.BEYOND);
        Due.is("8 turn(1, -1)", x.turn(1, -1), Due.BEYOND);
        Due.is("8 turn(2, 0)", x.turn(2, 0), Due.BEYOND);
        Due.is("8 turn(-1, 0)", x.turn(-1, 0), Due.BEYOND);
        Due.is("8 of(1, 0) then", x.of(1, 0), 0);
        Due.is("8 of(0, 0)", x.of(0, 0), 0);
    }

    private static void as() {
        int[][] may = {
            {1, 0, 0, 0, 0, 0}, {1, 1, 0, 0, 0, 0}, {1, 0, 1, 0, 0, 0},
            {1, 0, 0, 1, 0, 0}, {1, 1, 0, 0, 1, 0}, {1, 0, 1, 0, 0, 1}};
        InkNights x = Due.told("page 1");
        x.set(0, 2, 77);
        for (int kind = 0; kind < 6; kind++) {
            x.turn(0, kind);
            for (int wanted = 0; wanted < 6; wanted++) {
                Due.is("9 a " + kind + " as " + wanted, x.as(0, wanted), may[kind][wanted] == 1 ? 77 : Due.KIND);
            }
        }
        Due.is("9 as(0, 6)", x.as(0, 6), Due.BEYOND);
        Due.is("9 as(0, -1)", x.as(0, -1), Due.BEYOND);
        Due.is("9 as(1, 0)", x.as(1, 0), Due.BEYOND);
        Due.is("9 as(-1, 0)", x.as(-1, 0), Due.BEYOND);
        Due.is("9 status(2)", x.status(2), 23);
        Due.is("9 status(0)", x.status(0), 4);
    }

    private static void looks() {
        InkNights x = Due.told("letter 1; page 1");
        x.set(0, 2, 90);
        Due.is("10 looks(0)", x.looks(0), 50);
        Due.is("10 of(0, 4)", x.of(0, 4), 1);
        Due.is("10 looks(0) again", x.looks(0), 49);
        Due.is("10 of(1, 4)", x.of(1, 4), 0);
        x.jar(3, 9);
        Due.is("10 looks(0) by 9, as it is now", x.looks(0), 88);
        x.set(0, 4, 9998);
        x.looks(0);
        Due.is("10 looks(0) late", x.looks(0), 0);
        Due.is("10 held", x.of(0, 4), 9999);
        x.jar(3, 0);
        Due.is("10 looks(1) by none", x.looks(1), Due.STATE);
        Due.is("10 of(1, 4) then", x.of(1, 4), 0);
        Due.is("10 looks(2) by none", x.looks(2), Due.BEYOND);
        Due.is("10 looks(-1)", x.looks(-1), Due.BEYOND);
        Due.is("10 status(4)", x.status(4), 1);
    }

    private static void over() {
        InkNights x = Due.told("treaty 20 sun; will 30");
        x.set(0, 2, 1);
        x.set(0, 4, 9);
        x.jar(2, 4);
        x.dark(0, 17);
        Due.is("11 over(0)", x.over(0), 85);
        int[] page = {3, 20, 85, 1, 0};
        for (int what = 0; what < page.length; what++) {
            Due.is("11 of(0, " + what + ")", x.of(0, what), page[what]);
        }
        Due.is("11 now(4)", x.now(4), 0);
        x.jar(2, 2);
        x.set(1, 4, 6);
        Due.is("11 over(1) for 3", x.over(1), Due.STATE);
        Due.is("11 of(1, 2)", x.of(1, 2), 26);
        Due.is("11 of(1, 4)", x.of(1, 4), 6);
        Due.is("11 now(4) then", x.now(4), 2);
        Due.is("11 over(2)", x.over(2), Due.BEYOND);
        Due.is("11 over(-1)", x.over(-1), Due.BEYOND);
        x.jar(2, 3);
        Due.is("11 over(1)", x.over(1), 78);
    }
}
