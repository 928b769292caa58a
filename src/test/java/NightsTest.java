/** Promises 12 to 17: nights. */
public final class NightsTest {
    public static void main(String[] args) {
        nights();
        lastNight();
        ink();
        on();
        all();
        white();
        comes();
        Due.end("NightsTest");
    }

    private static void nights() {
        InkNights x = new InkNights();
        Due.is("12 nights(0)", x.nights(0), Due.BEYOND);
        Due.is("12 nights(-1)", x.nights(-1), Due.BEYOND);
        Due.is("12 nights(101)", x.nights(101), Due.BEYOND);
        Due.is("12 now(0)", x.now(0), 0);
        // Buckets 12, 27 more than 3, 42 more than 3: INK 1, 3 and 5 more.
        Due.is("12 nights(1)", x.nights(1), 6);
        Due.is("12 now(3)", x.now(3), 3);
        Due.is("12 nights(1)", x.nights(1), 9);
        Due.is("12 now(3)", x.now(3), 3);
        Due.is("12 nights(1)", x.nights(1), 14);
        Due.is("12 now(3)", x.now(3), 0);
        Due.is("12 nights(9)", x.nights(9), 44);
        Due.is("12 now(3)", x.now(3), 3);
        Due.is("12 now(0)", x.now(0), 12);
        x.jar(2, 990);
        // Ten nights bring 288 buckets and 3 there were: 32 thimbles, cut at 999, and 3 left.
        Due.is("12 nights(10) held", x.nights(10), 999);
        Due.is("12 now(3) held", x.now(3), 3);
        daysFade();
    }

    private static void daysFade() {
        InkNights x = Due.told("page 1 sun; deed 1 sun; letter 1; verse 1; page 1; will 1 sun");
        for (int page = 0; page < 6; page++) {
            x.set(page, 2, 50);
        }
        x.set(3, 4, 8);
        x.nights(3);
        int[] after3 = {23, 38, 47, 41, 50, 50};
        for (int page = 0; page < 6; page++) {
            Due.is("12 after 3 of(" + page + ", 2)", x.of(page, 2), after3[page]);
        }
        x.set(5, 4, 1);
        x.nights(10);
        int[] after13 = {0, 0, 37, 11, 50, 10};
        for (int page = 0; page < 6; page++) {
            Due.is("12 after 13 of(" + page + ", 2)", x.of(page, 2), after13[page]);
        }
    }

    private static void lastNight() {
        InkNights x = new InkNights();
        for (int i = 0; i < 99; i++) {
            x.nights(100);
        }
        Due.is("12 nights(100) past the last", x.nights(100), Due.STATE);
        Due.is("12 now(0) 9900", x.now(0), 9900);
        Due.is("12 nights(101) past the last", x.nights(101), Due.BEYOND);
        x.jar(2, 0);
        x.jar(1, 0);
        // 9900 is of place 0: 99 nights are eight rounds of 118 and places 0, 1, 2.
        Due.is("12 nights(99)", x.nights(99), 3 * (8 * 118 + 27) / 9);
        Due.is("12 now(0) 9999", x.now(0), 9999);
        Due.is("12 now(1) 9999", x.now(1), 6);
        Due.is("12 nights(1) at the last", x.nights(1), Due.STATE);
        x.jar(2, 0);
        x.jar(1, 0);
        // ON goes past the last night: places 3, 4 and 5.
        Due.is("13 ink(3) at the last", x.ink(3), 11);
        Due.is("18 when(0, 1) at the last", x.when(0, 1), 2);
    }

    private static void ink() {
        InkNights x = new InkNights();
        int[][] due = {{0, 5}, {1, 6}, {2, 9}, {3, 14}, {12, 44}, {24, 83}, {200, 661}};
        for (int[] row : due) {
            Due.is("13 ink(" + row[0] + ")", x.ink(row[0]), row[1]);
        }
        Due.is("13 ink(201)", x.ink(201), Due.BEYOND);
        Due.is("13 ink(-1)", x.ink(-1), Due.BEYOND);
        Due.is("13 now(4)", x.now(4), 5);
        Due.is("13 now(0)", x.now(0), 0);
        Due.is("13 now(3)", x.now(3), 0);
        x.jar(1, 6);
        Due.is("13 ink(1) with buckets", x.ink(1), 7);
        x.jar(0, 9);
        Due.is("13 ink(200) held", x.ink(200), 999);
        x.nights(11);
        x.jar(2, 0);
        x.jar(1, 0);
        Due.is("13 ink(2) over the round", x.ink(2), 11);
    }

    private static void on() {
        InkNights x = Due.told("page 1 sun; verse 1; letter 1");
        x.set(0, 2, 90);
        x.set(1, 2, 90);
        x.set(1, 4, 4);
        x.set(2, 2, 99);
        Due.is("14 on(0, 0, 0)", x.on(0, 0, 0), 90);
        Due.is("14 on(0, 0, 1)", x.on(0, 0, 1), 50);
        Due.is("14 on(0, 9, 0)", x.on(0, 9, 0), 9);
        Due.is("14 on(0, 9, 1)", x.on(0, 9, 1), 5);
        Due.is("14 on(0, 10, 0)", x.on(0, 10, 0), 0);
        Due.is("14 on(0, 200, 0)", x.on(0, 200, 0), 0);
        Due.is("14 on(1, 9, 0)", x.on(1, 9, 0), 72);
        Due.is("14 on(1, 9, 1)", x.on(1, 9, 1), 41);
        Due.is("14 on(1, 45, 1)", x.on(1, 45, 1), 0);
        Due.is("14 on(2, 98, 0)", x.on(2, 98, 0), 1);
        Due.is("14 on(0, 201, 0)", x.on(0, 201, 0), Due.BEYOND);
        Due.is("14 on(0, -1, 0)", x.on(0, -1, 0), Due.BEYOND);
        Due.is("14 on(0, 0, 2)", x.on(0, 0, 2), Due.BEYOND);
        Due.is("14 on(0, 0, -1)", x.on(0, 0, -1), Due.BEYOND);
        Due.is("14 on(3, 0, 0)", x.on(3, 0, 0), Due.BEYOND);
        Due.is("14 on(-1, 0, 0)", x.on(-1, 0, 0), Due.BEYOND);
        Due.is("14 of(0, 2)", x.of(0, 2), 90);
    }

    private static void all() {
        InkNights x = Due.told("page 1 sun; will 1; treaty 1 sun");
        x.set(0, 2, 90);
        x.set(1, 2, 60);
        x.set(2, 2, 30);
        // By 5: 50, twice 38, 30.
        Due.is("15 all(0)", x.all(0), 156);
        // BLACK 63, 60, 3.
        Due.is("15 all(3)", x.all(3), 35 + 76 + 3);
        Due.is("15 all(200)", x.all(200), 76);
        x.jar(3, 4);
        Due.is("15 all(3) by 4", x.all(3), 28 + 62);
        Due.is("15 all(201)", x.all(201), Due.BEYOND);
        Due.is("15 all(-1)", x.all(-1), Due.BEYOND);
        Due.is("15 of(0, 2)", x.of(0, 2), 90);
    }

    private static void white() {
        InkNights x = Due.told("page 1 sun; page 1; letter 1; verse 1");
        x.set(0, 2, 90);
        Due.is("16 white(0) of 90", x.white(0), 10);
        x.set(0, 2, 91);
        Due.is("16 white(0) of 91", x.white(0), 11);
        x.set(0, 2, 0);
        Due.is("16 white(0) of 0", x.white(0), 0);
        Due.is("16 white(1)", x.white(1), Due.NONE);
        x.set(2, 2, 99);
        Due.is("16 white(2)", x.white(2), 99);
        x.set(3, 4, 9999);
        Due.is("16 white(3)", x.white(3), 1);
        Due.is("16 white(4)", x.white(4), Due.BEYOND);
        Due.is("16 white(-1)", x.white(-1), Due.BEYOND);
        Due.is("16 status(3)", x.status(3), 1);
    }

    private static void comes() {
        InkNights x = new InkNights();
        int[][] due = {{0, 0}, {5, 0}, {6, 1}, {7, 2}, {9, 2}, {10, 3}, {44, 12}, {657, 199}, {661, 200}, {662, Due.NONE}};
        for (int[] row : due) {
            Due.is("17 comes(" + row[0] + ")", x.comes(row[0]), row[1]);
        }
        Due.is("17 comes(1000)", x.comes(1000), Due.BEYOND);
        Due.is("17 comes(-1)", x.comes(-1), Due.BEYOND);
        x.jar(0, 9);
        // 9 brothers: as many thimbles as it is dark, 118 a round: 8 rounds make 949, places 0 to 5 60.
        Due.is("17 comes(999)", x.comes(999), 96 + 6);
        x.jar(1, 8);
        Due.is("17 comes(10) with buckets", x.comes(10), 2);
    }
}
