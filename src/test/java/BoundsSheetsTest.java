/** The bounds that promises 28 to 33 and the terms behind them name: sheets. */
public final class BoundsSheetsTest {
    private static final int MIN = Bounds.MIN;
    private static final int MAX = Bounds.MAX;
    private static final long LEAST = Long.MIN_VALUE;
    private static final long GREATEST = Long.MAX_VALUE;

    public static void main(String[] args) {
        promise28SheetIs0To3();
        promise28BitsAre0Or8Or16Or64();
        promise28NumbersAre0To40();
        promise28FindingsInOrder();
        promise28AllAre0();
        promise28MissingAgain();
        promise29SheetIs0To3();
        promise29Missing();
        promise29NumberIsOfTheSheet();
        promise29LowestBits();
        promise29AnswerIsNoFinding();
        promise30SheetsAre0To3();
        promise30Missing();
        promise30Kind();
        promise30NotSoMany();
        promise30BelowZero();
        promise30None();
        promise30AsTheyAllWere();
        promise30FindingsInOrder();
        promise31Sheet();
        promise31BlackIs0To99();
        promise31StandForNone();
        promise32SheetMissingPage();
        promise32NoneAnd40();
        promise33SheetMissingPage();
        promise33NoneAnd40();
        promise33NumbersThatCannotBe();
        promise33WhiteAtTheEnd();
        Due.end("BoundsSheetsTest");
    }

    private static void promise28SheetIs0To3() {
        Bounds.range("28 s", Bounds::rich, (x, v) -> x.sheet(v, 8, 1), 0, 1, 3, 1);
        Bounds.range("28 s, bits 0", Bounds::rich, (x, v) -> x.sheet(v, 0, 1), 0, 0, 3, 0);
    }

    private static void promise28BitsAre0Or8Or16Or64() {
        for (int bits : new int[] {0, 8, 16, 64}) {
            Bounds.taken("28 bits " + bits, Bounds::rich, x -> x.sheet(0, bits, 5), bits == 0 ? 0 : 5);
        }
        for (int bits : new int[] {MIN, -64, -16, -8, -1, 1, 7, 9, 15, 17, 32, 63, 65, 128, 256 + 8, MAX}) {
            Bounds.refused("28 bits " + bits, Bounds::rich, x -> x.sheet(0, bits, 5), Due.BEYOND);
        }
    }

    private static void promise28NumbersAre0To40() {
        for (int bits : new int[] {0, 8, 16, 64}) {
            int of = bits;
            Bounds.taken("28 n of 0, bits " + bits, Bounds::rich, x -> x.sheet(0, of, 0), 0);
            Bounds.taken("28 n of 40, bits " + bits, Bounds::rich, x -> x.sheet(0, of, 40), bits == 0 ? 0 : 40);
            for (int n : new int[] {41, 42, MAX}) {
                Bounds.refused("28 n of " + n + ", bits " + bits, Bounds::rich, x -> x.sheet(0, of, n), Due.BEYOND);
            }
            for (int n : new int[] {-1, -40, MIN}) {
                Bounds.refused("28 n of " + n + ", bits " + bits, Bounds::rich, x -> x.sheet(0, of, n), Due.SIZE);
            }
        }
        Bounds.refused("28 n of 41 for a MISSING one", InkNights::new, x -> x.sheet(0, 8, 41), Due.BEYOND);
        Bounds.refused("28 n of -1 for a MISSING one", InkNights::new, x -> x.sheet(0, 0, -1), Due.SIZE);
    }

    private static void promise28FindingsInOrder() {
        Bounds.refused("28 sheet ahead of SIZE", Bounds::rich, x -> x.sheet(4, 8, -1), Due.BEYOND);
        Bounds.refused("28 sheet ahead of SIZE", Bounds::rich, x -> x.sheet(-1, 0, MIN), Due.BEYOND);
        Bounds.refused("28 bits ahead of SIZE", Bounds::rich, x -> x.sheet(0, 32, -1), Due.BEYOND);
        Bounds.refused("28 bits ahead of SIZE", Bounds::rich, x -> x.sheet(3, MIN, MIN), Due.BEYOND);
        Bounds.refused("28 all at once", Bounds::rich, x -> x.sheet(MAX, MAX, MAX), Due.BEYOND);
        Bounds.refused("28 all at once", Bounds::rich, x -> x.sheet(MIN, MIN, MIN), Due.BEYOND);
    }

    private static void promise28AllAre0() {
        InkNights x = Bounds.rich();
        for (int i = 0; i < 40; i++) {
            x.write(1, i, i + 1);
        }
        x.sheet(1, 16, 40);
        for (int i = 0; i < 40; i++) {
            Due.is("28 all 0 in another of 40, " + i, x.write(1, i, i + 1), 0);
        }
        x.sheet(1, 16, 2);
        x.sheet(1, 64, 40);
        for (int i = 0; i < 40; i++) {
            Due.is("28 all 0 after one of 2, " + i, x.write(1, i, i + 1), 0);
        }
        Due.is("28 another sheet stays", x.write(0, 1, 0), -8);
    }

    private static void promise28MissingAgain() {
        InkNights x = Bounds.rich();
        Due.is("28 bits 0", x.sheet(0, 0, 40), 0);
        Due.is("28 it is MISSING", x.write(0, 0, 1), Due.MISSING);
        Due.is("28 bits 0 again", x.sheet(0, 0, 0), 0);
        Due.is("28 it is MISSING still", x.lays(0), Due.MISSING);
        x.sheet(0, 8, 3);
        Due.is("28 its numbers are gone", x.write(0, 2, 1), 0);
        Due.is("28 one of none isn't MISSING", x.lays(2), 0);
    }

    private static void promise29SheetIs0To3() {
        Bounds.range("29 s", Bounds::full, (x, v) -> x.write(v, 0, 1), 0, 0, 3, 0);
        for (int s : new int[] {MIN, -1, 4, MAX}) {
            Bounds.refused("29 sheet ahead of number, " + s, Bounds::rich, x -> x.write(s, MAX, LEAST), Due.BEYOND);
        }
    }

    private static void promise29Missing() {
        for (int i : new int[] {MIN, -1, 0, 40, MAX}) {
            Bounds.refused("29 MISSING ahead of number " + i, Bounds::rich, x -> x.write(3, i, 1), Due.MISSING);
        }
    }

    private static void promise29NumberIsOfTheSheet() {
        Bounds.range("29 i of three", Bounds::rich, (x, v) -> x.write(0, v, 1), 0, 7, 2, 99);
        // BLACK 90 of a PAGE in the SUN, and after 39 days.
        Bounds.range("29 i of forty", Bounds::rich, (x, v) -> x.write(1, v, 1), 0, 90, 39, 0);
        for (int i : new int[] {MIN, -1, 0, 1, 40, MAX}) {
            Bounds.refused("29 i of none, " + i, Bounds::rich, x -> x.write(2, i, 1), Due.BEYOND);
        }
        InkNights x = Bounds.rich();
        x.sheet(0, 8, 40);
        x.write(0, 5, 9);
        x.sheet(0, 8, 5);
        Due.is("29 one that there was", x.write(0, 5, 1), Due.BEYOND);
    }

    private static void written(int bits, long v, long due) {
        InkNights x = Bounds.rich();
        x.sheet(0, bits, 3);
        x.write(0, 1, 5);
        Due.is("29 " + v + " to " + bits + " bits, what was", x.write(0, 1, v), 5);
        Due.is("29 " + v + " to " + bits + " bits", x.write(0, 1, 0), due);
        Due.is("29 the one ahead", x.write(0, 0, 0), 0);
        Due.is("29 the one behind", x.write(0, 2, 0), 0);
    }

    private static void promise29LowestBits() {
        long[][] of8 = {{127, 127}, {128, -128}, {255, -1}, {256, 0}, {-1, -1}, {-128, -128}, {-129, 127}, {-256, 0}};
        long[][] of16 = {{32767, 32767}, {32768, -32768}, {65535, -1}, {65536, 0}, {-32768, -32768}, {-32769, 32767},
            {128, 128}, {255, 255}};
        long[] of64 = {LEAST, LEAST + 1, -1, 0, 255, 65536, 0x80000000L, 0x100000000L, GREATEST - 1, GREATEST};
        for (long[] row : of8) {
            written(8, row[0], row[1]);
        }
        for (long[] row : of16) {
            written(16, row[0], row[1]);
        }
        for (long v : of64) {
            written(64, v, v);
        }
        for (int bits : new int[] {8, 16}) {
            written(bits, LEAST, 0);
            written(bits, GREATEST, -1);
            written(bits, 0x100000000L, 0);
            written(bits, 0x7fffffff00000011L, 17);
        }
    }

    private static void promise29AnswerIsNoFinding() {
        InkNights x = Bounds.rich();
        x.sheet(2, 64, 1);
        int told = x.status(-1);
        x.write(2, 0, Due.BEYOND);
        Due.is("29 a number like BEYOND", x.write(2, 0, Due.SIZE), Due.BEYOND);
        Due.is("29 a number like SIZE", x.write(2, 0, LEAST), Due.SIZE);
        Due.is("29 the least", x.write(2, 0, 0), LEAST);
        Due.is("29 none is counted", x.status(-1), told);
    }

    private static void promise30SheetsAre0To3() {
        Bounds.range("30 s", Bounds::full, (x, v) -> x.copy(v, 0, v == 3 ? 2 : 0, 0, 40), 0, 40, 3, 40);
        Bounds.range("30 t", Bounds::full, (x, v) -> x.copy(v == 3 ? 2 : 0, 0, v, 0, 40), 0, 40, 3, 40);
        Bounds.refused("30 s and t", Bounds::full, x -> x.copy(4, 0, 4, 0, 1), Due.BEYOND);
        Bounds.refused("30 s and t", Bounds::full, x -> x.copy(MIN, MIN, MIN, MIN, MIN), Due.BEYOND);
        Bounds.refused("30 s and t", Bounds::full, x -> x.copy(MAX, MAX, MAX, MAX, MAX), Due.BEYOND);
    }

    private static void promise30Missing() {
        Bounds.refused("30 s is MISSING", Bounds::rich, x -> x.copy(3, 0, 0, 0, 0), Due.MISSING);
        Bounds.refused("30 t is MISSING", Bounds::rich, x -> x.copy(0, 0, 3, 0, 0), Due.MISSING);
        Bounds.refused("30 both are MISSING", Bounds::rich, x -> x.copy(3, 0, 3, 0, 0), Due.MISSING);
    }

    private static void promise30Kind() {
        Bounds.refused("30 8 to 16", Bounds::rich, x -> x.copy(0, 0, 1, 0, 1), Due.KIND);
        Bounds.refused("30 16 to 8", Bounds::rich, x -> x.copy(1, 0, 0, 0, 1), Due.KIND);
        Bounds.refused("30 none of 8 to 64", Bounds::rich, x -> x.copy(0, 0, 2, 0, 0), Due.KIND);
        Bounds.refused("30 none of 64 to 16", Bounds::rich, x -> x.copy(2, 0, 1, 0, 0), Due.KIND);
    }

    /** SHEETS 0 (5, 6, 7) and 3 (1, 2, 3, 4, 9), both of 16 bits, and 1 with 40. */
    private static InkNights pair() {
        InkNights x = Bounds.rich();
        int[][] numbers = {{5, 6, 7}, {}, {}, {1, 2, 3, 4, 9}};
        for (int s : new int[] {0, 3}) {
            x.sheet(s, 16, numbers[s].length);
            for (int i = 0; i < numbers[s].length; i++) {
                x.write(s, i, numbers[s][i]);
            }
        }
        return x;
    }

    private static void copied(int[] call, int... dueOfTheOther) {
        InkNights x = pair();
        String what = "30 copy(" + call[0] + ", " + call[1] + ", " + call[2] + ", " + call[3] + ", " + call[4] + ")";
        Due.is(what, x.copy(call[0], call[1], call[2], call[3], call[4]), call[4]);
        for (int i = 0; i < dueOfTheOther.length; i++) {
            Due.is(what + ", then number " + i, x.write(call[2], i, 0), dueOfTheOther[i]);
        }
    }

    private static void promise30NotSoMany() {
        copied(new int[] {0, 0, 3, 0, 3}, 5, 6, 7, 4, 9);
        copied(new int[] {0, 0, 3, 2, 3}, 1, 2, 5, 6, 7);
        copied(new int[] {0, 2, 3, 4, 1}, 1, 2, 3, 4, 7);
        copied(new int[] {3, 2, 0, 0, 3}, 3, 4, 9);
        copied(new int[] {3, 4, 0, 2, 1}, 5, 6, 9);
        int[][] beyond = {{0, 0, 3, 0, 4}, {0, 1, 3, 0, 3}, {0, 3, 3, 0, 1}, {0, 0, 3, 3, 3}, {0, 0, 3, 5, 1},
            {3, 0, 0, 0, 4}, {3, 0, 0, 1, 3}, {3, 5, 0, 0, 1}, {3, 3, 0, 0, 3}, {1, 0, 1, 0, 41}, {1, 40, 1, 0, 1},
            {1, 0, 1, 40, 1}, {0, 4, 3, 0, 0}, {0, 0, 3, 6, 0}, {0, MAX, 3, 0, 0}, {0, 0, 3, MAX, 0}, {0, 0, 3, 0, MAX},
            {0, MAX, 3, 0, 1}, {0, 0, 3, MAX, 1}, {0, 1, 3, 1, MAX}, {0, MAX, 3, MAX, MAX}, {1, MAX - 1, 1, 2, 2}};
        for (int[] c : beyond) {
            Bounds.refused("30 copy(" + c[0] + ", " + c[1] + ", " + c[2] + ", " + c[3] + ", " + c[4] + ")",
                BoundsSheetsTest::pair, x -> x.copy(c[0], c[1], c[2], c[3], c[4]), Due.BEYOND);
        }
    }

    private static void promise30BelowZero() {
        for (int below : new int[] {-1, -2, MIN + 1, MIN}) {
            Bounds.refused("30 from " + below, BoundsSheetsTest::pair, x -> x.copy(0, below, 3, 0, 1), Due.BEYOND);
            Bounds.refused("30 to " + below, BoundsSheetsTest::pair, x -> x.copy(0, 0, 3, below, 1), Due.BEYOND);
            Bounds.refused("30 n " + below, BoundsSheetsTest::pair, x -> x.copy(0, 0, 3, 0, below), Due.BEYOND);
            Bounds.refused("30 from, n " + below, BoundsSheetsTest::pair, x -> x.copy(0, below, 3, 1, 0), Due.BEYOND);
            Bounds.refused("30 all " + below, BoundsSheetsTest::pair, x -> x.copy(0, below, 3, below, below), Due.BEYOND);
            Bounds.refused("30 n " + below + " further on", BoundsSheetsTest::pair, x -> x.copy(0, 3, 3, 3, below),
                Due.BEYOND);
        }
    }

    private static void promise30None() {
        int[][] calls = {{0, 0, 3, 0, 0}, {0, 3, 3, 5, 0}, {3, 5, 0, 3, 0}, {1, 40, 1, 40, 0}, {2, 0, 2, 0, 0}};
        for (int[] c : calls) {
            Bounds.changesNothing("30 none from " + c[1] + " to " + c[3], BoundsSheetsTest::pair,
                x -> x.copy(c[0], c[1], c[2], c[3], 0), 0);
        }
        Bounds.refused("30 one of none", Bounds::rich, x -> x.copy(2, 0, 2, 0, 1), Due.BEYOND);
        Bounds.refused("30 none from 1 of none", Bounds::rich, x -> x.copy(2, 1, 2, 0, 0), Due.BEYOND);
    }

    private static void promise30AsTheyAllWere() {
        copied(new int[] {3, 0, 3, 1, 4}, 1, 1, 2, 3, 4);
        copied(new int[] {3, 1, 3, 0, 4}, 2, 3, 4, 9, 9);
        copied(new int[] {3, 0, 3, 2, 3}, 1, 2, 1, 2, 3);
        copied(new int[] {3, 0, 3, 0, 5}, 1, 2, 3, 4, 9);
        Bounds.changesNothing("30 all forty to themselves", Bounds::full, x -> x.copy(0, 0, 0, 0, 40), 40);
        InkNights x = pair();
        x.copy(0, 0, 3, 0, 3);
        Due.is("30 the first stays", x.write(0, 0, 0), 5);
        Due.is("30 it is a copy", x.write(3, 0, 0), 5);
    }

    private static void promise30FindingsInOrder() {
        Bounds.refused("30 sheet ahead of MISSING", Bounds::rich, x -> x.copy(3, 0, 4, 0, 1), Due.BEYOND);
        Bounds.refused("30 sheet ahead of MISSING", Bounds::rich, x -> x.copy(-1, 0, 3, 0, 1), Due.BEYOND);
        Bounds.refused("30 MISSING ahead of KIND, BEYOND", Bounds::rich, x -> x.copy(3, -1, 0, -1, -1), Due.MISSING);
        Bounds.refused("30 MISSING ahead of KIND, BEYOND", Bounds::rich, x -> x.copy(0, MAX, 3, MAX, MAX), Due.MISSING);
        Bounds.refused("30 KIND ahead of BEYOND", Bounds::rich, x -> x.copy(0, -1, 1, 0, 1), Due.KIND);
        Bounds.refused("30 KIND ahead of BEYOND", Bounds::rich, x -> x.copy(0, 0, 1, MAX, MAX), Due.KIND);
        Bounds.refused("30 KIND ahead of BEYOND", Bounds::rich, x -> x.copy(1, 0, 2, 0, MIN), Due.KIND);
    }

    private static void promise31Sheet() {
        Bounds.range("31 s", Bounds::full, (x, v) -> x.lays(v), 0, 8, 3, 8);
        Bounds.refused("31 MISSING", Bounds::rich, x -> x.lays(3), Due.MISSING);
        Bounds.changesNothing("31 of none", Bounds::rich, x -> x.lays(2), 0);
        Bounds.changesNothing("31 for no pages", () -> written64(new InkNights(), 1, 2), x -> x.lays(0), 0);
    }

    private static InkNights written64(InkNights x, long... numbers) {
        x.sheet(0, 64, numbers.length);
        for (int i = 0; i < numbers.length; i++) {
            x.write(0, i, numbers[i]);
        }
        return x;
    }

    private static void laid(long[] numbers, int came, int... black) {
        InkNights x = written64(Bounds.rich(), numbers);
        String what = "31 " + java.util.Arrays.toString(numbers);
        Due.is(what, x.lays(0), came);
        for (int page = 0; page < black.length; page++) {
            Due.is(what + ", then page " + page, x.of(page, 2), black[page]);
        }
        Due.is(what + ", then the other numbers", x.of(2, 1) + x.of(2, 3) + x.of(2, 4), 60 + 1 + 2);
    }

    private static void promise31BlackIs0To99() {
        laid(new long[] {0, 99, -1, 100, 1}, 3, 0, 99, 51, 40, 1);
        laid(new long[] {LEAST, GREATEST, 0x100000000L, 0x100000032L, -0x100000000L}, 0, 90, 60, 51, 40, 30);
        laid(new long[] {MIN, MAX, -99, 999, 98}, 1, 90, 60, 51, 40, 98);
        InkNights x = Bounds.rich();
        // 7, -8 and 99 of 8 bits.
        Due.is("31 of 8 bits", x.lays(0), 2);
        Due.is("31 of 8 bits, the first", x.of(0, 2), 7);
        Due.is("31 of 8 bits, one below 0", x.of(1, 2), 60);
        Due.is("31 of 8 bits, the third", x.of(2, 2), 99);
    }

    private static void promise31StandForNone() {
        laid(new long[] {1, 2, 3, 4, 5, 6}, 5, 1, 2, 3, 4, 5);
        laid(new long[] {-1, -1, -1, -1, -1, 6}, 0, 90, 60, 51, 40, 30);
        laid(new long[] {1}, 1, 1, 60, 51, 40, 30);
        laid(new long[] {}, 0, 90, 60, 51, 40, 30);
        laid(new long[] {1, 2, 3, 4}, 4, 1, 2, 3, 4, 30);
        Bounds.taken("31 forty for eight", Bounds::full, x -> x.lays(0), 8);
    }

    private static void promise32SheetMissingPage() {
        Bounds.range("32 s", Bounds::full, (x, v) -> x.book(v, 0), 0, 40, 3, 40);
        Bounds.refused("32 MISSING", Bounds::rich, x -> x.book(3, 0), Due.MISSING);
        Bounds.pages("32 page", (x, v) -> x.book(1, v));
        Bounds.refused("32 sheet ahead of page", Bounds::rich, x -> x.book(4, 5), Due.BEYOND);
        for (int page : new int[] {MIN, -1, 5, MAX}) {
            Bounds.refused("32 MISSING ahead of page " + page, Bounds::rich, x -> x.book(3, page), Due.MISSING);
            Bounds.refused("32 page " + page + " and a sheet of none", Bounds::rich, x -> x.book(2, page), Due.BEYOND);
        }
    }

    private static void promise32NoneAnd40() {
        Bounds.changesNothing("32 of none", Bounds::rich, x -> x.book(2, 0), 0);
        InkNights x = Bounds.rich();
        x.set(0, 2, 99);
        x.turn(0, 2);
        x.set(0, 3, 0);
        Due.is("32 of forty", x.book(1, 0), 40);
        for (int i = 0; i < 40; i++) {
            Due.is("32 of forty, number " + i, x.write(1, i, 0), 99 - i);
        }
        x.sheet(1, 8, 1);
        x.set(0, 2, 99);
        Due.is("32 of one", x.book(1, 0), 1);
        Due.is("32 of one, its number", x.write(1, 0, 0), 99);
        InkNights y = Bounds.rich();
        y.book(0, 0);
        int[] due = {90, 81, 72};
        for (int i = 0; i < due.length; i++) {
            Due.is("32 of 8 bits, number " + i, y.write(0, i, 0), due[i]);
        }
        Due.is("32 the PAGE stays", y.of(0, 2), 90);
        Due.is("32 the NIGHT stays", y.now(0), 13);
        InkNights z = Bounds.last();
        z.sheet(0, 8, 40);
        Due.is("32 in NIGHT 9999", z.book(0, 1), 40);
        Due.is("32 in NIGHT 9999, the last", z.write(0, 39, 0), 26);
    }

    private static void promise33SheetMissingPage() {
        // White for forty NIGHTS: of each KIND the one pair with BLACK 0.
        Bounds.range("33 s", Bounds::full, (x, v) -> x.read(v, 0), 0, 6, 3, 6);
        Bounds.refused("33 MISSING", Bounds::rich, x -> x.read(3, 0), Due.MISSING);
        Bounds.pages("33 page", (x, v) -> x.read(1, v));
        Bounds.refused("33 sheet ahead of page", Bounds::rich, x -> x.read(4, 5), Due.BEYOND);
        for (int page : new int[] {MIN, -1, 5, MAX}) {
            Bounds.refused("33 MISSING ahead of page " + page, Bounds::rich, x -> x.read(3, page), Due.MISSING);
            Bounds.refused("33 page " + page + " and a sheet of none", Bounds::rich, x -> x.read(2, page), Due.BEYOND);
        }
    }

    private static void promise33NoneAnd40() {
        Bounds.changesNothing("33 of none: all pairs", Bounds::rich, x -> x.read(2, 0), 600);
        // 90, 81, 72, .. 0: a PAGE or a TREATY of 90 in the SUN.
        Bounds.changesNothing("33 of forty", Bounds::rich, x -> x.read(1, 0), 2);
        InkNights x = Bounds.rich();
        x.write(1, 39, 1);
        Due.is("33 of forty, the last is otherwise", x.read(1, 0), 0);
        InkNights y = Bounds.rich();
        y.write(1, 0, 91);
        Due.is("33 of forty, the first is otherwise", y.read(1, 0), 0);
    }

    private static void promise33NumbersThatCannotBe() {
        long[][] due = {{0, 6}, {1, 6}, {99, 6}, {100, 0}, {-1, 0}, {LEAST, 0}, {GREATEST, 0}, {0x100000000L, 0},
            {0x100000032L, 0}, {MIN, 0}, {MAX, 0}};
        for (long[] row : due) {
            Bounds.taken("33 one of " + row[0], () -> written64(Bounds.rich(), row[0]), x -> x.read(0, 0), row[1]);
        }
        Bounds.taken("33 it grows", () -> written64(Bounds.rich(), 50, 51), x -> x.read(0, 0), 0);
        Bounds.taken("33 it goes below 0", () -> written64(Bounds.rich(), 5, -4), x -> x.read(0, 0), 0);
    }

    // In the SUN, READ 0: 9, 4, 10, 9, 0 and 10 a day.
    private static void promise33WhiteAtTheEnd() {
        long[][] due = {{9, 0, 4}, {10, 0, 2}, {10, 1, 2}, {11, 1, 2}, {4, 0, 5}, {5, 0, 4}, {5, 1, 1}, {5, 5, 1},
            {0, 0, 6}, {1, 0, 5}, {99, 90, 2}, {99, 99, 1}, {99, 89, 2}, {99, 95, 1}, {99, 0, 0}};
        for (long[] row : due) {
            Bounds.taken("33 " + row[0] + ", " + row[1], () -> written64(Bounds.rich(), row[0], row[1]),
                x -> x.read(0, 0), row[2]);
        }
        InkNights x = written64(Bounds.rich(), 99, 0);
        x.set(0, 4, 9999);
        Due.is("33 a VERSE that FADES by 2509", x.read(0, 0), 1);
    }
}
