/** The bounds that promises 12 to 17 and the terms behind them name: nights that go, and nights ON. */
public final class BoundsNightsTest {
    private static final int MIN = Bounds.MIN;
    private static final int MAX = Bounds.MAX;

    public static void main(String[] args) {
        promise12NightsAre1To100();
        promise12NightIs9999AtMost();
        promise12FindingsInOrder();
        promise12EachWhole9();
        promise12InkIs999AtMost();
        promise12BlackIs0AtLeast();
        promise12NoPagesAndEight();
        promise12OneByOneAsAtOnce();
        promise13NightsAre0To200();
        promise13InkIsHeld();
        promise13PastTheLastNight();
        promise14PageNightsAndWhat();
        promise14BlackIs0AtLeast();
        promise15NightsAre0To200();
        promise16Page();
        promise16WhiteFirst();
        promise16None();
        promise17InkIs0To999();
        promise17First();
        promise17NoneAfter200();
        Due.end("BoundsNightsTest");
    }

    private static InkNights atNight(int night) {
        InkNights x = Bounds.rich();
        while (night - x.now(0) >= 100) {
            x.nights(100);
        }
        x.nights(night - x.now(0));
        return x;
    }

    /** The rich one with BROTHERS, BUCKETS, INK, and DARK of its NIGHT. */
    private static InkNights boiling(int brothers, int buckets, int ink, int dark) {
        InkNights x = Bounds.rich();
        x.jar(0, brothers);
        x.jar(1, buckets);
        x.jar(2, ink);
        x.dark(1, dark);
        return x;
    }

    private static void promise12NightsAre1To100() {
        // From place 1 on it is DARK 9, 14, 6, 11, 19, 8, 13, 5, 10, 15, 7, 4: 121 a round; 2 BROTHERS, 4 BUCKETS:
        // 22 BUCKETS in one NIGHT; 8 rounds and 40 make 2020 in a hundred.
        Bounds.range("12 n", Bounds::rich, (x, v) -> x.nights(v), 1, 52, 100, 274);
        // A new one: 8 rounds of 118 and 33, thrice, make 2931.
        Bounds.range("12 n in a new one", InkNights::new, (x, v) -> x.nights(v), 1, 6, 100, 330);
        for (int n : new int[] {1, 100}) {
            InkNights x = Bounds.rich();
            x.nights(n);
            Due.is("12 NIGHT after " + n, x.now(0), 13 + n);
            Due.is("12 BUCKETS after " + n, x.now(3), 4);
        }
    }

    private static void promise12NightIs9999AtMost() {
        InkNights x = atNight(9899);
        Due.is("12 nights(100) from 9899", x.nights(100) > Due.BEYOND ? x.now(0) : -1, 9999);
        Bounds.refused("12 nights(100) from 9900", () -> atNightWithoutFades(9900), y -> y.nights(100), Due.STATE);
        InkNights z = atNight(9900);
        Due.is("12 nights(99) from 9900", z.nights(99) > Due.BEYOND ? z.now(0) : -1, 9999);
        Bounds.refused("12 nights(2) from 9998", () -> atNightWithoutFades(9998), y -> y.nights(2), Due.STATE);
        InkNights w = atNight(9998);
        Due.is("12 nights(1) from 9998", w.nights(1) > Due.BEYOND ? w.now(0) : -1, 9999);
        Bounds.refused("12 nights(1) from 9999", Bounds::last, y -> y.nights(1), Due.STATE);
        Bounds.refused("12 nights(100) from 9999", Bounds::last, y -> y.nights(100), Due.STATE);
    }

    private static InkNights atNightWithoutFades(int night) {
        InkNights x = new InkNights();
        x.scribe(0, 1);
        x.scribe(1, 1);
        while (night - x.now(0) > 100) {
            x.nights(100);
        }
        x.nights(night - x.now(0));
        x.jar(2, 3);
        return x;
    }

    private static void promise12FindingsInOrder() {
        for (int n : new int[] {MIN, -1, 0, 101, MAX}) {
            Bounds.refused("12 BEYOND ahead of STATE, " + n, Bounds::last, x -> x.nights(n), Due.BEYOND);
        }
    }

    private static void boils(int[] jar, int dueInk, int dueBuckets) {
        String what = "12 BROTHERS " + jar[0] + ", BUCKETS " + jar[1] + ", INK " + jar[2] + ", DARK " + jar[3];
        InkNights x = boiling(jar[0], jar[1], jar[2], jar[3]);
        Due.is(what + ": 13 ink(1)", x.ink(1), dueInk);
        Due.is(what + ": nights(1)", x.nights(1), dueInk);
        Due.is(what + ": now(4)", x.now(4), dueInk);
        Due.is(what + ": now(3)", x.now(3), dueBuckets);
    }

    private static void promise12EachWhole9() {
        boils(new int[] {1, 7, 0, 1}, 0, 8);
        boils(new int[] {1, 8, 0, 1}, 1, 0);
        boils(new int[] {1, 8, 0, 2}, 1, 1);
        boils(new int[] {1, 8, 0, 10}, 2, 0);
        boils(new int[] {1, 0, 0, 8}, 0, 8);
        boils(new int[] {1, 0, 0, 9}, 1, 0);
        boils(new int[] {0, 8, 0, 20}, 0, 8);
        boils(new int[] {9, 8, 0, 0}, 0, 8);
        boils(new int[] {9, 8, 0, 20}, 20, 8);
    }

    private static void promise12InkIs999AtMost() {
        boils(new int[] {1, 0, 998, 9}, 999, 0);
        boils(new int[] {1, 0, 998, 19}, 999, 1);
        boils(new int[] {1, 0, 999, 9}, 999, 0);
        boils(new int[] {1, 8, 999, 20}, 999, 1);
        boils(new int[] {9, 8, 979, 20}, 999, 8);
        boils(new int[] {9, 8, 978, 20}, 998, 8);
        boils(new int[] {9, 8, 980, 20}, 999, 8);
        InkNights x = boiling(9, 8, 999, 20);
        Due.is("12 a hundred at 999", x.nights(100), 999);
        Due.is("12 BUCKETS after them", x.now(3), 8);
    }

    private static void promise12BlackIs0AtLeast() {
        int[][] due = {{8, 0}, {9, 0}, {10, 1}, {0, 0}, {99, 90}};
        for (int[] row : due) {
            InkNights x = Bounds.rich();
            x.set(0, 2, row[0]);
            x.nights(1);
            Due.is("12 a PAGE of " + row[0] + " in the SUN", x.of(0, 2), row[1]);
        }
        InkNights x = Bounds.rich();
        x.nights(100);
        int[] left = {0, 60, 0, 0, 30};
        for (int page = 0; page < left.length; page++) {
            Due.is("12 after a hundred, page " + page, x.of(page, 2), left[page]);
        }
        InkNights y = Bounds.rich();
        y.turn(3, 5);
        y.set(3, 4, 9999);
        y.set(3, 2, 99);
        y.nights(100);
        Due.is("12 one that FADES by 2500", y.of(3, 2), 0);
    }

    private static void promise12NoPagesAndEight() {
        InkNights x = Bounds.full();
        x.set(0, 3, 1);
        // Three BROTHERS, DARK 4 and 9: 39 BUCKETS.
        Due.is("12 with eight", x.nights(2), 104);
        int[] left = {0, 20, 30, 40, 50, 60, 70, 62};
        for (int page = 0; page < left.length; page++) {
            Due.is("12 with eight, page " + page, x.of(page, 2), left[page]);
        }
        Due.is("12 with eight, NIGHT", x.now(0), 2);
        InkNights y = new InkNights();
        Due.is("12 with none", y.nights(2), 9);
        Due.is("12 with none, count(0)", y.count(0), 0);
    }

    private static void promise12OneByOneAsAtOnce() {
        InkNights x = Bounds.rich();
        InkNights y = Bounds.rich();
        x.nights(100);
        for (int i = 0; i < 100; i++) {
            y.nights(1);
        }
        Due.holds("12 a hundred at once are as one by one", Bounds.seen(x).equals(Bounds.seen(y)));
    }

    private static void promise13NightsAre0To200() {
        // 16 rounds of 121 and 85: twice 2021, and 4, make 4046 BUCKETS.
        Bounds.range("13 n", Bounds::rich, (x, v) -> x.ink(v), 0, 50, 200, 499);
        Bounds.range("13 n in a new one", InkNights::new, (x, v) -> x.ink(v), 0, 5, 200, 661);
        for (int n : new int[] {0, 1, 200}) {
            int due = n == 0 ? 50 : n == 1 ? 52 : 499;
            Bounds.changesNothing("13 ink(" + n + ")", Bounds::rich, x -> x.ink(n), due);
        }
    }

    private static void promise13InkIsHeld() {
        Bounds.taken("13 INK 999", () -> boiling(9, 8, 999, 20), x -> x.ink(200), 999);
        Bounds.taken("13 INK 999 ON 0", () -> boiling(9, 8, 999, 20), x -> x.ink(0), 999);
        Bounds.taken("13 INK 0 without BROTHERS", () -> boiling(0, 8, 0, 20), x -> x.ink(200), 0);
    }

    private static void promise13PastTheLastNight() {
        Bounds.changesNothing("13 ink(0) in NIGHT 9999", Bounds::last, x -> x.ink(0), 1);
        Bounds.changesNothing("13 ink(200) in NIGHT 9999", Bounds::last, x -> x.ink(200), 1);
        InkNights x = Bounds.last();
        x.jar(0, 9);
        // Place 3 now, and 4 the next: DARK 6 and 11.
        Due.is("13 ink(1) in NIGHT 9999", x.ink(1), 7);
        Due.is("13 ink(2) in NIGHT 9999", x.ink(2), 18);
        Bounds.refused("13 ink(201) in NIGHT 9999", Bounds::last, y -> y.ink(201), Due.BEYOND);
    }

    private static void promise14PageNightsAndWhat() {
        Bounds.pages("14 page", (x, v) -> x.on(v, 0, 0));
        Bounds.pages("14 page, BELIEVED", (x, v) -> x.on(v, 200, 1));
        Bounds.range("14 n, BLACK", Bounds::rich, (x, v) -> x.on(1, v, 0), 0, 60, 200, 60);
        Bounds.range("14 n, BLACK that FADES", Bounds::rich, (x, v) -> x.on(0, v, 0), 0, 90, 200, 0);
        Bounds.range("14 n, BELIEVED", Bounds::rich, (x, v) -> x.on(1, v, 1), 0, 45, 200, 45);
        Bounds.range("14 what", Bounds::rich, (x, v) -> x.on(0, 1, v), 0, 81, 1, 54);
        Bounds.refused("14 page, n and what", Bounds::rich, x -> x.on(5, 201, 2), Due.BEYOND);
        Bounds.refused("14 page, n and what", Bounds::rich, x -> x.on(MIN, MIN, MIN), Due.BEYOND);
        Bounds.refused("14 page, n and what", Bounds::rich, x -> x.on(MAX, MAX, MAX), Due.BEYOND);
        Bounds.changesNothing("14 on(0, 200, 0)", Bounds::rich, x -> x.on(0, 200, 0), 0);
        Bounds.changesNothing("14 on(2, 200, 1)", Bounds::rich, x -> x.on(2, 200, 1), 0);
    }

    private static void promise14BlackIs0AtLeast() {
        InkNights x = Bounds.rich();
        Due.is("14 the day ahead of white", x.on(0, 9, 0), 9);
        Due.is("14 the day of white", x.on(0, 10, 0), 0);
        Due.is("14 the day after", x.on(0, 11, 0), 0);
        // A WILL of 51: 3 after 12 days, then 0 and not -1.
        Due.is("14 a WILL ON 12", x.on(2, 12, 0), 3);
        Due.is("14 a WILL ON 13", x.on(2, 13, 0), 0);
        Due.is("14 a WILL ON 13 is BELIEVED", x.on(2, 13, 1), 0);
        // Once white a VERSE isn't BELIEVED by the LAMP's 6 any more.
        Due.is("14 a VERSE ON 19 is BELIEVED", x.on(3, 19, 1), 6);
        Due.is("14 a VERSE ON 20 is BELIEVED", x.on(3, 20, 1), 0);
        // A WILL of 51 is above 50 now, 47 after a day: twice 31.
        Due.is("14 a WILL ON 0 is BELIEVED", x.on(2, 0, 1), 78);
        Due.is("14 a WILL ON 1 is BELIEVED", x.on(2, 1, 1), 62);
        Due.is("14 in NIGHT 9999", Bounds.last().on(0, 200, 0), 16);
    }

    private static void promise15NightsAre0To200() {
        Bounds.range("15 n", Bounds::rich, (x, v) -> x.all(v), 0, 239, 200, 75);
        Bounds.range("15 n without pages", InkNights::new, (x, v) -> x.all(v), 0, 0, 200, 0);
        // The one in the SUN is white after 9 days: 38 + 33 + 27 + 22 + 16 + 11 + 5 stay.
        Bounds.range("15 n with eight", Bounds::full, (x, v) -> x.all(v), 0, 196, 200, 152);
        Bounds.changesNothing("15 all(200)", Bounds::rich, x -> x.all(200), 75);
        Bounds.taken("15 all(200) in NIGHT 9999", Bounds::last, x -> x.all(200), 22);
    }

    private static void promise16Page() {
        Bounds.pages("16 page", BoundsNightsTest::whiteIfAny);
    }

    // A page that never is white answers NONE, which is no BEYOND.
    private static long whiteIfAny(InkNights x, int page) {
        int white = x.white(page);
        return white == Due.NONE ? 0 : white;
    }

    private static void promise16WhiteFirst() {
        int[][] due = {{0, 0}, {1, 1}, {9, 1}, {10, 2}, {18, 2}, {19, 3}, {99, 11}};
        for (int[] row : due) {
            InkNights x = Bounds.rich();
            x.set(0, 2, row[0]);
            Due.is("16 a PAGE of " + row[0] + " in the SUN", x.white(0), row[1]);
        }
        InkNights x = Bounds.rich();
        x.turn(3, 2);
        x.set(3, 2, 99);
        Due.is("16 a LETTER of 99 in the shade", x.white(3), 99);
        x.turn(3, 5);
        x.set(3, 4, 9999);
        Due.is("16 a VERSE that FADES by 2500", x.white(3), 1);
        x.set(1, 2, 0);
        Due.is("16 a white one that FADES by 0", x.white(1), 0);
        Bounds.changesNothing("16 white(0)", Bounds::rich, y -> y.white(0), 10);
    }

    private static void promise16None() {
        Bounds.refused("16 FADES by 0", Bounds::rich, x -> x.white(1), Due.NONE);
        Bounds.refused("16 FADES by 0", Bounds::rich, x -> x.white(4), Due.NONE);
        InkNights x = Bounds.rich();
        x.set(2, 4, 0);
        Due.is("16 a WILL in the SUN, READ 0", x.white(2), Due.NONE);
        x.set(2, 4, 1);
        Due.is("16 a WILL in the SUN, READ 1", x.white(2), 13);
        x.set(1, 2, 1);
        Due.is("16 BLACK 1 that FADES by 0", x.white(1), Due.NONE);
        Bounds.refused("16 in NIGHT 9999", Bounds::last, y -> y.white(0), Due.NONE);
    }

    private static void promise17InkIs0To999() {
        Bounds.range("17 v, INK 999", () -> boiling(0, 0, 999, 0), (x, v) -> x.comes(v), 0, 0, 999, 0);
        Bounds.range("17 v, INK 0", () -> boiling(0, 0, 0, 0), (x, v) -> x.comes(v), 0, 0, 999, Due.NONE);
        Bounds.changesNothing("17 comes(499)", Bounds::rich, x -> x.comes(499), 200);
    }

    private static void promise17First() {
        int[][] due = {{0, 0}, {49, 0}, {50, 0}, {51, 1}, {52, 1}, {53, 2}, {498, 199}, {499, 200}};
        for (int[] row : due) {
            Bounds.taken("17 comes(" + row[0] + ")", Bounds::rich, x -> x.comes(row[0]), row[1]);
        }
        Bounds.taken("17 comes(999) at 998", () -> boiling(1, 8, 998, 1), x -> x.comes(999), 1);
        Bounds.taken("17 comes(999) at 998", () -> boiling(1, 7, 998, 1), x -> x.comes(999), 2);
    }

    private static void promise17NoneAfter200() {
        Bounds.refused("17 comes(500), which is ON 201", Bounds::rich, x -> x.comes(500), Due.NONE);
        Bounds.refused("17 without BROTHERS", Bounds::last, x -> x.comes(2), Due.NONE);
        Bounds.taken("17 without BROTHERS", Bounds::last, x -> x.comes(1), 0);
        Bounds.refused("17 BEYOND ahead of NONE", Bounds::last, x -> x.comes(1000), Due.BEYOND);
        Bounds.refused("17 BEYOND ahead of NONE", Bounds::last, x -> x.comes(MAX), Due.BEYOND);
        Bounds.refused("17 BEYOND", Bounds::last, x -> x.comes(MIN), Due.BEYOND);
        InkNights x = Bounds.last();
        x.jar(0, 1);
        // 200 NIGHTS from place 3 on: 16 rounds of 118, and 6 + 11 + 16 + 8 + 13 + 5 + 10 + 15 = 84: 219 thimbles.
        Due.is("17 comes(220) in NIGHT 9999", x.comes(220), 200);
        Due.is("17 comes(221) in NIGHT 9999", x.comes(221), Due.NONE);
    }
}
