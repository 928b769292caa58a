/** Promises 28 to 33: sheets. */
public final class SheetsTest {
    private static final int MIN = Integer.MIN_VALUE;
    private static final int MAX = Integer.MAX_VALUE;

    public static void main(String[] args) {
        sheet();
        write();
        copy();
        copyFindings();
        lays();
        book();
        read();
        Due.end("SheetsTest");
    }

    private static void sheet() {
        InkNights x = new InkNights();
        Due.is("28 sheet(4, 8, 1)", x.sheet(4, 8, 1), Due.BEYOND);
        Due.is("28 sheet(-1, 8, -1)", x.sheet(-1, 8, -1), Due.BEYOND);
        Due.is("28 sheet(0, 32, -1)", x.sheet(0, 32, -1), Due.BEYOND);
        Due.is("28 sheet(0, -8, 1)", x.sheet(0, -8, 1), Due.BEYOND);
        Due.is("28 sheet(0, 8, -1)", x.sheet(0, 8, -1), Due.SIZE);
        Due.is("28 sheet(0, 0, -1)", x.sheet(0, 0, -1), Due.SIZE);
        Due.is("28 sheet(0, 0, MIN)", x.sheet(0, 0, MIN), Due.SIZE);
        Due.is("28 sheet(0, 8, 41)", x.sheet(0, 8, 41), Due.BEYOND);
        Due.is("28 sheet(0, 0, 41)", x.sheet(0, 0, 41), Due.BEYOND);
        Due.is("28 still MISSING", x.write(0, 0, 1), Due.MISSING);
        Due.is("28 sheet(0, 16, 40)", x.sheet(0, 16, 40), 40);
        Due.is("28 write(0, 39, 5)", x.write(0, 39, 5), 0);
        Due.is("28 a refused one", x.sheet(0, 0, 41), Due.BEYOND);
        Due.is("28 changes nothing", x.write(0, 39, 6), 5);
        Due.is("28 sheet(0, 16, 40) again", x.sheet(0, 16, 40), 40);
        Due.is("28 all are 0", x.write(0, 39, 6), 0);
        Due.is("28 sheet(0, 0, 7)", x.sheet(0, 0, 7), 0);
        Due.is("28 MISSING again", x.write(0, 0, 6), Due.MISSING);
        Due.is("28 sheet(3, 64, 0)", x.sheet(3, 64, 0), 0);
        Due.is("28 of none", x.write(3, 0, 6), Due.BEYOND);
        Due.is("28 status(6)", x.status(6), 3);
        Due.is("28 status(5)", x.status(5), 2);
    }

    private static void write() {
        InkNights x = new InkNights();
        x.sheet(0, 8, 3);
        x.sheet(1, 16, 3);
        x.sheet(2, 64, 3);
        long[] values = {0x123456789abcdef0L, 200L, -1L, 40000L, Long.MIN_VALUE, -2000000000L};
        long was = 0;
        for (long v : values) {
            Due.is("29 of 8 bits", x.write(0, 2, v), (byte) was);
            Due.is("29 of 16 bits", x.write(1, 2, v), (short) was);
            Due.is("29 of 64 bits", x.write(2, 2, v), was);
            was = v;
        }
        Due.is("29 of 64 bits, no finding", x.write(2, 2, -1000000001L), -2000000000L);
        Due.is("29 of 64 bits, no finding", x.write(2, 2, 0), -1000000001L);
        Due.is("29 status(-1)", x.status(-1), 0);
        Due.is("29 another number", x.write(2, 1, 0), 0);
        Due.is("29 write(-1, 0, 0)", x.write(-1, 0, 0), Due.BEYOND);
        Due.is("29 write(4, 0, 0)", x.write(4, 0, 0), Due.BEYOND);
        Due.is("29 MISSING ahead of BEYOND", x.write(3, -1, 0), Due.MISSING);
        Due.is("29 write(0, 3, 0)", x.write(0, 3, 0), Due.BEYOND);
        Due.is("29 write(0, -1, 0)", x.write(0, -1, 0), Due.BEYOND);
        Due.is("29 write(0, MIN, 0)", x.write(0, MIN, 0), Due.BEYOND);
        Due.is("29 status(0)", x.status(0), 5);
    }

    private static void fill(InkNights x, int s, int n, int first) {
        for (int i = 0; i < n; i++) {
            x.write(s, i, first + i);
        }
    }

    private static void holds(InkNights x, int s, int... due) {
        for (int i = 0; i < due.length; i++) {
            Due.is("30 number " + i + " of " + s, x.write(s, i, due[i]), due[i]);
        }
    }

    private static void copy() {
        InkNights x = new InkNights();
        x.sheet(0, 8, 5);
        x.sheet(1, 8, 4);
        fill(x, 0, 5, 1);
        fill(x, 1, 4, 11);
        Due.is("30 copy(0, 1, 1, 2, 2)", x.copy(0, 1, 1, 2, 2), 2);
        holds(x, 1, 11, 12, 2, 3);
        holds(x, 0, 1, 2, 3, 4, 5);
        Due.is("30 onward", x.copy(0, 0, 0, 1, 4), 4);
        holds(x, 0, 1, 1, 2, 3, 4);
        Due.is("30 backward", x.copy(0, 2, 0, 0, 3), 3);
        holds(x, 0, 2, 3, 4, 3, 4);
        Due.is("30 all", x.copy(1, 0, 0, 0, 4), 4);
        holds(x, 0, 11, 12, 2, 3, 4);
        Due.is("30 none at the end", x.copy(0, 5, 1, 4, 0), 0);
    }

    private static void copyFindings() {
        InkNights x = new InkNights();
        x.sheet(0, 8, 5);
        x.sheet(1, 8, 4);
        x.sheet(2, 16, 4);
        Due.is("30 no such sheet", x.copy(4, 0, 0, 0, 1), Due.BEYOND);
        Due.is("30 no such sheet", x.copy(3, 0, -1, 0, 1), Due.BEYOND);
        Due.is("30 MISSING", x.copy(3, -1, 2, 0, 1), Due.MISSING);
        Due.is("30 MISSING", x.copy(2, 0, 3, -1, 1), Due.MISSING);
        Due.is("30 KIND", x.copy(0, -1, 2, 0, 1), Due.KIND);
        int[][] beyond = {{0, 0, 5}, {5, 0, 1}, {0, 4, 1}, {3, 0, 3}, {0, 2, 3}, {-1, 0, 1}, {0, -1, 1}, {0, 0, -1},
            {6, 0, 0}, {0, 5, 0}, {MAX, 0, 1}, {0, MAX, 1}, {1, 1, MAX}, {MAX, MAX, MAX}, {MIN, MIN, MIN},
            {MAX, 0, MIN}, {0, 0, MIN}, {MIN, 0, 0}};
        for (int[] row : beyond) {
            Due.is("30 copy(0, " + row[0] + ", 1, " + row[1] + ", " + row[2] + ")",
                x.copy(0, row[0], 1, row[1], row[2]), Due.BEYOND);
        }
        Due.is("30 status(0)", x.status(0), 2 + beyond.length);
        Due.is("30 status(2)", x.status(2), 1);
        Due.is("30 status(5)", x.status(5), 2);
    }

    private static void lays() {
        InkNights x = Due.told("page 1;page 1;page 1;page 1");
        x.sheet(0, 64, 3);
        x.write(0, 0, 99);
        x.write(0, 1, 100);
        x.write(0, 2, 0);
        Due.is("31 lays(0)", x.lays(0), 2);
        int[] due = {99, 16, 0, 16};
        for (int page = 0; page < 4; page++) {
            Due.is("31 of(" + page + ", 2)", x.of(page, 2), due[page]);
        }
        x.sheet(0, 64, 6);
        x.write(0, 0, -1);
        x.write(0, 1, 0x100000005L);
        x.write(0, 2, Long.MIN_VALUE);
        x.write(0, 3, 7);
        x.write(0, 4, 8);
        Due.is("31 lays(0) of six", x.lays(0), 1);
        due = new int[] {99, 16, 0, 7};
        for (int page = 0; page < 4; page++) {
            Due.is("31 then of(" + page + ", 2)", x.of(page, 2), due[page]);
        }
        x.sheet(1, 8, 0);
        Due.is("31 of none", x.lays(1), 0);
        Due.is("31 lays(2)", x.lays(2), Due.MISSING);
        Due.is("31 lays(4)", x.lays(4), Due.BEYOND);
        Due.is("31 lays(-1)", x.lays(-1), Due.BEYOND);
    }

    private static void book() {
        InkNights x = Due.told("page 1;letter 1 sun");
        x.set(1, 2, 25);
        x.sheet(2, 8, 5);
        Due.is("32 book(2, 1)", x.book(2, 1), 5);
        int[] due = {25, 15, 5, 0, 0};
        for (int i = 0; i < due.length; i++) {
            Due.is("32 number " + i, x.write(2, i, 0), due[i]);
        }
        Due.is("32 of(1, 2)", x.of(1, 2), 25);
        x.sheet(1, 64, 40);
        x.set(0, 2, 99);
        x.turn(0, 2);
        Due.is("32 book(1, 0)", x.book(1, 0), 40);
        Due.is("32 number 39", x.write(1, 39, 0), 60);
        x.sheet(0, 16, 0);
        Due.is("32 of none", x.book(0, 0), 0);
        Due.is("32 book(4, 9)", x.book(4, 9), Due.BEYOND);
        Due.is("32 book(-1, 0)", x.book(-1, 0), Due.BEYOND);
        Due.is("32 MISSING ahead of page", x.book(3, 9), Due.MISSING);
        Due.is("32 book(0, 2)", x.book(0, 2), Due.BEYOND);
        Due.is("32 book(0, -1)", x.book(0, -1), Due.BEYOND);
    }

    private static void read() {
        InkNights x = Due.told("page 1 sun;page 1");
        x.sheet(0, 16, 0);
        Due.is("33 of none", x.read(0, 0), 600);
        x.sheet(0, 16, 1);
        x.write(0, 0, 50);
        Due.is("33 of one", x.read(0, 0), 6);
        x.write(0, 0, 100);
        Due.is("33 of 100", x.read(0, 0), 0);
        x.write(0, 0, -1);
        Due.is("33 of -1", x.read(0, 0), 0);
        x.sheet(0, 16, 3);
        Due.is("33 white", x.read(0, 0), 6);
        told(x, 50, 41, 32, 2);
        told(x, 50, 46, 42, 1);
        told(x, 50, 40, 30, 2);
        told(x, 50, 50, 50, 1);
        told(x, 5, 0, 0, 4);
        told(x, 50, 41, 33, 0);
        told(x, 50, 41, 0, 0);
        x.set(0, 4, 4);
        // Once READ a WILL fades as a DEED, and at 4 a VERSE by 11.
        told(x, 50, 46, 42, 2);
        told(x, 50, 40, 30, 1);
        told(x, 50, 39, 28, 1);
        told(x, 50, 50, 50, 0);
        Due.is("33 in the shade", x.read(0, 1), 4);
        told(x, 50, 49, 48, 0);
        Due.is("33 in the shade", x.read(0, 1), 2);
        Due.is("33 of(0, 0)", x.of(0, 0), 0);
        Due.is("33 of(0, 2)", x.of(0, 2), 16);
        Due.is("33 read(4, 9)", x.read(4, 9), Due.BEYOND);
        Due.is("33 read(-1, 0)", x.read(-1, 0), Due.BEYOND);
        Due.is("33 MISSING ahead of page", x.read(3, 9), Due.MISSING);
        Due.is("33 read(0, 2)", x.read(0, 2), Due.BEYOND);
        Due.is("33 read(0, -1)", x.read(0, -1), Due.BEYOND);
        farNumbers();
    }

    private static void told(InkNights x, int first, int second, int third, int due) {
        x.write(0, 0, first);
        x.write(0, 1, second);
        x.write(0, 2, third);
        Due.is("33 " + first + " " + second + " " + third, x.read(0, 0), due);
    }

    private static void farNumbers() {
        InkNights x = Due.told("page 1");
        x.sheet(0, 64, 1);
        x.write(0, 0, 0x100000032L);
        Due.is("33 a number whose lowest bits are 50", x.read(0, 0), 0);
    }
}
