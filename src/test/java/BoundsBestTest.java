/** The bounds that promises 18 to 24 name: what is best. */
public final class BoundsBestTest {
    private static final int MIN = Bounds.MIN;
    private static final int MAX = Bounds.MAX;

    public static void main(String[] args) {
        promise18KindAndWords();
        promise18NightsAre0To11();
        promise18OfSeveralTheFewest();
        promise18InkEnough();
        promise18NoneAndOrder();
        promise19NightsAre1To60();
        promise19OfSeveralTheLeast();
        promise19None();
        promise20NightsAre1To60();
        promise20InkIs0To999();
        promise20BrothersAre0To9();
        promise21Page();
        promise21NightsAre0To60();
        promise21OfSeveralTheLeast();
        promise22NightsAre0To60();
        promise22BelievedIs0To9999();
        promise22LampIs0To9();
        promise23Kind();
        promise23WordsAre1To99();
        promise23FindingsInOrder();
        promise24NightsAre1To20();
        promise24BelievedIs0To9999();
        promise24NoneOfThemAndAll();
        promise24OfSeveralTheLeast();
        promise24NoneAndOrder();
        Due.end("BoundsBestTest");
    }

    private static InkNights boiling(int brothers, int buckets, int ink) {
        InkNights x = Bounds.rich();
        x.jar(0, brothers);
        x.jar(1, buckets);
        x.jar(2, ink);
        return x;
    }

    /** A new one, all places of which are as DARK. */
    private static InkNights evenly(int dark, int brothers, int buckets, int ink) {
        InkNights x = new InkNights();
        for (int place = 0; place < 12; place++) {
            x.dark(place, dark);
        }
        x.jar(0, brothers);
        x.jar(1, buckets);
        x.jar(2, ink);
        return x;
    }

    private static void promise18KindAndWords() {
        // The darkest is place 5 (19), four NIGHTS on.
        Bounds.range("18 kind", Bounds::rich, (x, v) -> x.when(v, 1), 0, 4, 5, 4);
        Bounds.range("18 words", Bounds::rich, (x, v) -> x.when(0, v), 1, 4, 99, 4);
        Bounds.refused("18 kind and words", Bounds::rich, x -> x.when(6, 0), Due.BEYOND);
        Bounds.refused("18 kind and words", Bounds::rich, x -> x.when(MIN, MAX), Due.BEYOND);
        Bounds.refused("18 kind and words", Bounds::rich, x -> x.when(MAX, MIN), Due.BEYOND);
        Bounds.changesNothing("18 when(3, 99)", Bounds::rich, x -> x.when(3, 99), 4);
        Bounds.changesNothing("18 with eight pages", Bounds::full, x -> x.when(0, 99), 5);
    }

    private static InkNights darkestAt(int place) {
        InkNights x = evenly(1, 1, 0, 50);
        x.dark(place, 2);
        return x;
    }

    private static void promise18NightsAre0To11() {
        for (int place = 0; place < 12; place++) {
            int at = place;
            Bounds.taken("18 darkest at " + place, () -> darkestAt(at), x -> x.when(0, 1), place);
        }
        InkNights x = darkestAt(0);
        x.nights(1);
        Due.is("18 the place that went is 11 on", x.when(0, 1), 11);
        InkNights y = Bounds.last();
        y.dark(2, 20);
        Due.is("18 in NIGHT 9999", y.when(0, 1), 11);
    }

    private static void promise18OfSeveralTheFewest() {
        Bounds.taken("18 all alike", () -> evenly(7, 1, 0, 50), x -> x.when(0, 1), 0);
        InkNights x = evenly(1, 1, 0, 50);
        x.dark(4, 9);
        x.dark(11, 9);
        Due.is("18 two alike", x.when(0, 1), 4);
        // Nothing can be blacker than 99: DARK 20 of a TREATY is 99, 19 is 95.
        x.dark(4, 19);
        x.dark(11, 20);
        Due.is("18 a TREATY of 95 and of 99", x.when(3, 1), 11);
        // A VERSE of DARK 0 and of 1 is BLACK 0 alike.
        InkNights y = evenly(0, 0, 0, 50);
        y.dark(6, 1);
        Due.is("18 VERSES of 0", y.when(5, 1), 0);
        y.dark(6, 2);
        Due.is("18 a VERSE of 3", y.when(5, 1), 6);
        // A TREATY of DARK 15 is 75, of 14 it is 56.
        y.dark(3, 14);
        y.dark(9, 15);
        Due.is("18 a TREATY of 56 and of 75", y.when(3, 1), 9);
    }

    private static void promise18InkEnough() {
        // DARK 1 and one brother: a bucket a NIGHT. A DEED of 1 WORD costs 3.
        Bounds.taken("18 INK just enough now", () -> evenly(1, 1, 0, 3), x -> x.when(1, 1), 0);
        Bounds.taken("18 INK enough ON 1", () -> evenly(1, 1, 8, 2), x -> x.when(1, 1), 1);
        Bounds.taken("18 INK enough ON 9", () -> evenly(1, 1, 0, 2), x -> x.when(1, 1), 9);
        // From INK 1 it takes 18 BUCKETS: with 8, 7 and 6 of them there 10, 11 and 12 NIGHTS.
        Bounds.taken("18 INK enough ON 10", () -> evenly(1, 1, 8, 1), x -> x.when(1, 1), 10);
        Bounds.taken("18 INK enough ON 11", () -> evenly(1, 1, 7, 1), x -> x.when(1, 1), 11);
        Bounds.refused("18 INK enough ON 12", () -> evenly(1, 1, 6, 1), x -> x.when(1, 1), Due.NONE);
        InkNights x = evenly(1, 1, 8, 2);
        x.dark(0, 20);
        Due.is("18 darkest now, without INK", x.when(1, 1), 1);
        x.jar(2, 3);
        Due.is("18 darkest now, with INK", x.when(1, 1), 0);
    }

    private static void promise18NoneAndOrder() {
        Bounds.refused("18 INK 0 without BROTHERS", () -> boiling(0, 8, 0), x -> x.when(0, 1), Due.NONE);
        Bounds.refused("18 INK 9 for 10", () -> boiling(0, 8, 9), x -> x.when(3, 99), Due.NONE);
        Bounds.taken("18 INK 10 for 10", () -> boiling(0, 8, 10), x -> x.when(3, 99), 4);
        Bounds.refused("18 BEYOND ahead of NONE", () -> boiling(0, 8, 0), x -> x.when(6, 1), Due.BEYOND);
        Bounds.refused("18 BEYOND ahead of NONE", () -> boiling(0, 8, 0), x -> x.when(0, 100), Due.BEYOND);
        Bounds.refused("18 BEYOND ahead of NONE", () -> boiling(0, 8, 0), x -> x.when(0, 0), Due.BEYOND);
    }

    private static void promise19NightsAre1To60() {
        // In a day the SUN takes 6 of the PAGE's 60, and 16 of the WILL's 78; in 60 all of it.
        Bounds.range("19 n", Bounds::rich, (x, v) -> x.shade(v), 1, 2, 60, 2);
        Bounds.changesNothing("19 shade(60)", Bounds::rich, x -> x.shade(60), 2);
        Bounds.taken("19 the last of eight", Bounds::full, x -> x.shade(1), 7);
        Bounds.taken("19 the last of eight", Bounds::full, x -> x.shade(60), 7);
    }

    private static void promise19OfSeveralTheLeast() {
        InkNights x = Bounds.full();
        x.jar(3, 9);
        x.set(0, 3, 1);
        x.set(4, 3, 1);
        // Of each of BLACK 10, 50 and 80 the SUN takes 9 in a day, 10, 18 and 18 in two.
        Due.is("19 three alike", x.shade(1), 0);
        Due.is("19 two alike", x.shade(2), 4);
        Due.is("19 the blackest ON 60", x.shade(60), 7);
        x.jar(3, 0);
        Due.is("19 none is BELIEVED", x.shade(60), 0);
    }

    private static InkNights allInShade() {
        InkNights x = Bounds.rich();
        x.set(0, 3, 0);
        x.set(2, 3, 0);
        return x;
    }

    private static void promise19None() {
        Bounds.refused("19 none lies there", () -> allInShade(), x -> x.shade(1), Due.NONE);
        Bounds.refused("19 none lies there", () -> allInShade(), x -> x.shade(60), Due.NONE);
        Bounds.refused("19 no pages", InkNights::new, x -> x.shade(1), Due.NONE);
        for (int n : new int[] {MIN, 0, 61, MAX}) {
            Bounds.refused("19 BEYOND ahead of NONE, " + n, InkNights::new, x -> x.shade(n), Due.BEYOND);
        }
        InkNights x = allInShade();
        x.set(4, 3, 1);
        x.set(4, 2, 0);
        Due.is("19 a white one that lies there", x.shade(60), 4);
    }

    private static void promise20NightsAre1To60() {
        // 9 BROTHERS in a NIGHT of DARK 9: 81 BUCKETS and 4; in 60 NIGHTS (605 in five rounds) one boils 605 and 4.
        Bounds.range("20 n", Bounds::rich, (x, v) -> x.enough(v, 59), 1, 9, 60, 1);
        Bounds.changesNothing("20 enough(60, 59)", Bounds::rich, x -> x.enough(60, 59), 1);
        Bounds.taken("20 enough(1, 60)", Bounds::rich, x -> x.enough(1, 60), Due.NONE);
    }

    private static void promise20InkIs0To999() {
        Bounds.range("20 v", () -> boiling(5, 0, 999), (x, v) -> x.enough(1, v), 0, 0, 999, 0);
        Bounds.range("20 v from INK 0", () -> boiling(5, 0, 0), (x, v) -> x.enough(60, v), 0, 0, 999, Due.NONE);
        Bounds.refused("20 n and v", Bounds::rich, x -> x.enough(0, -1), Due.BEYOND);
        Bounds.refused("20 n and v", Bounds::rich, x -> x.enough(MIN, MIN), Due.BEYOND);
        Bounds.refused("20 n and v", Bounds::rich, x -> x.enough(MAX, MAX), Due.BEYOND);
    }

    private static void promise20BrothersAre0To9() {
        // In twelve NIGHTS of 121 each brother boils 121: 13, 26, 40, 53, 67, 80, 94, 107, 121 thimbles.
        int[][] due = {{0, 0}, {50, 0}, {51, 1}, {63, 1}, {64, 2}, {76, 2}, {77, 3}, {157, 8}, {158, 9}, {171, 9}};
        for (int[] row : due) {
            Bounds.taken("20 enough(12, " + row[0] + ")", () -> boiling(9, 0, 50), x -> x.enough(12, row[0]), row[1]);
        }
        Bounds.refused("20 more than nine boil", () -> boiling(9, 0, 50), x -> x.enough(12, 172), Due.NONE);
        // INK is held at 999: nine boil 605 in sixty NIGHTS.
        Bounds.taken("20 held at 999", () -> boiling(0, 0, 394), x -> x.enough(60, 999), 9);
        Bounds.refused("20 one less", () -> boiling(0, 0, 393), x -> x.enough(60, 999), Due.NONE);
        Bounds.refused("20 all is DARK 0", () -> evenly(0, 9, 8, 5), x -> x.enough(60, 6), Due.NONE);
        Bounds.refused("20 BEYOND ahead of NONE", () -> evenly(0, 9, 8, 5), x -> x.enough(61, 6), Due.BEYOND);
        Bounds.refused("20 BEYOND ahead of NONE", () -> evenly(0, 9, 8, 5), x -> x.enough(60, 1000), Due.BEYOND);
    }

    private static void promise21Page() {
        Bounds.pages("21 page", (x, v) -> x.kind(v, 0));
        Bounds.pages("21 page", (x, v) -> x.kind(v, 60));
    }

    private static void promise21NightsAre0To60() {
        // BLACK 90 by 6: 60, 65, 60, 90, 130, 66. In 60 days of SUN only a WILL that isn't READ stays.
        Bounds.range("21 n", Bounds::rich, (x, v) -> x.kind(0, v), 0, 4, 60, 4);
        Bounds.refused("21 page and n", Bounds::rich, x -> x.kind(5, 61), Due.BEYOND);
        Bounds.refused("21 page and n", Bounds::rich, x -> x.kind(MIN, MAX), Due.BEYOND);
        Bounds.refused("21 page and n", Bounds::rich, x -> x.kind(MAX, MIN), Due.BEYOND);
        Bounds.changesNothing("21 kind(3, 60)", Bounds::rich, x -> x.kind(3, 60), 4);
        InkNights x = Bounds.rich();
        x.set(0, 4, 1);
        Due.is("21 READ once, all are white ON 60", x.kind(0, 60), 0);
        Due.is("21 READ once, a DEED of 2 ON 22, and a WILL", x.kind(0, 22), 4);
        Due.is("21 READ once, all are white ON 23", x.kind(0, 23), 0);
    }

    private static void promise21OfSeveralTheLeast() {
        InkNights x = Bounds.rich();
        x.set(1, 2, 0);
        Due.is("21 a white one", x.kind(1, 0), 0);
        x.set(1, 2, 60);
        x.jar(3, 0);
        // By none a DEED is 5, a WILL 10; of 50 and less all are 0.
        Due.is("21 by none", x.kind(1, 0), 4);
        x.set(1, 2, 50);
        Due.is("21 of 50 by none", x.kind(1, 0), 0);
        x.jar(3, 9);
        x.set(1, 2, 9);
        // 9, 9, 9, 9, 18, 18.
        Due.is("21 a WILL and a VERSE alike", x.kind(1, 0), 4);
        x.set(1, 2, 8);
        Due.is("21 a VERSE is 1 more", x.kind(1, 0), 5);
        x.jar(3, 5);
        x.set(1, 2, 18);
        // 10, 10, 10, 18, 20, 15; of 16: 8, 8, 8, 16, 16, 13.
        Due.is("21 a WILL is 2 more", x.kind(1, 0), 4);
        x.set(1, 2, 16);
        Due.is("21 a TREATY and a WILL alike", x.kind(1, 0), 3);
    }

    private static void promise22NightsAre0To60() {
        // ON 60: 45 of the DEED by 6 and the TREATY's 30 are left; by 5 it is 38 and 30.
        Bounds.range("22 n", Bounds::rich, (x, v) -> x.lamp(v, 75), 0, 3, 60, 6);
        Bounds.changesNothing("22 lamp(60, 75)", Bounds::rich, x -> x.lamp(60, 75), 6);
        Bounds.taken("22 lamp(60, 68)", Bounds::rich, x -> x.lamp(60, 68), 5);
        Bounds.taken("22 lamp(60, 69)", Bounds::rich, x -> x.lamp(60, 69), 6);
    }

    private static void promise22BelievedIs0To9999() {
        Bounds.range("22 v", Bounds::rich, (x, v) -> x.lamp(0, v), 0, 0, 9999, Due.NONE);
        Bounds.range("22 v without pages", InkNights::new, (x, v) -> x.lamp(0, v), 0, 0, 9999, Due.NONE);
        Bounds.refused("22 n and v", Bounds::rich, x -> x.lamp(61, -1), Due.BEYOND);
        Bounds.refused("22 n and v", Bounds::rich, x -> x.lamp(MIN, MIN), Due.BEYOND);
        Bounds.refused("22 n and v", Bounds::rich, x -> x.lamp(MAX, MAX), Due.BEYOND);
    }

    private static void promise22LampIs0To9() {
        // By 0: 5 of the DEED, 10 of the WILL. By 9: 90, 65, 112, 34 and 9, 30.
        Bounds.taken("22 by 0", Bounds::rich, x -> x.lamp(0, 15), 0);
        Bounds.taken("22 by 1", Bounds::rich, x -> x.lamp(0, 16), 1);
        Bounds.taken("22 by 9", Bounds::rich, x -> x.lamp(0, 340), 9);
        Bounds.refused("22 by none", Bounds::rich, x -> x.lamp(0, 341), Due.NONE);
        Bounds.refused("22 no pages", InkNights::new, x -> x.lamp(60, 1), Due.NONE);
        Bounds.refused("22 BEYOND ahead of NONE", InkNights::new, x -> x.lamp(61, 1), Due.BEYOND);
        Bounds.refused("22 BEYOND ahead of NONE", InkNights::new, x -> x.lamp(0, 10000), Due.BEYOND);
    }

    private static void promise23Kind() {
        Bounds.range("23 kind", Bounds::rich, (x, v) -> x.longest(v), 0, 99, 5, 99);
        Bounds.range("23 kind with INK 2", () -> boiling(9, 8, 2), (x, v) -> x.longest(v), 0, 39, 5, 59);
        Bounds.changesNothing("23 longest(3)", Bounds::rich, x -> x.longest(3), 99);
    }

    private static void promise23WordsAre1To99() {
        // The INK that 1 WORD costs, and the INK that 99 cost.
        int[] least = {1, 3, 1, 2, 2, 2};
        int[] longestOfLeast = {19, 19, 59, 19, 19, 59};
        int[] most = {5, 7, 2, 10, 6, 3};
        int[] longestOfLess = {79, 79, 59, 79, 79, 59};
        for (int k = 0; k < 6; k++) {
            int kind = k;
            Bounds.refused("23 1 less than 1 WORD, KIND " + k, () -> boiling(9, 8, least[kind] - 1),
                x -> x.longest(kind), Due.NONE);
            Bounds.taken("23 enough for 1 WORD, KIND " + k, () -> boiling(9, 8, least[kind]),
                x -> x.longest(kind), longestOfLeast[k]);
            Bounds.taken("23 1 less than 99 WORDS, KIND " + k, () -> boiling(9, 8, most[kind] - 1),
                x -> x.longest(kind), longestOfLess[k]);
            Bounds.taken("23 enough for 99 WORDS, KIND " + k, () -> boiling(9, 8, most[kind]),
                x -> x.longest(kind), 99);
            Bounds.taken("23 INK 999, KIND " + k, () -> boiling(9, 8, 999), x -> x.longest(kind), 99);
        }
    }

    private static InkNights fullWith(int ink) {
        InkNights x = Bounds.full();
        x.jar(2, ink);
        return x;
    }

    private static void promise23FindingsInOrder() {
        Bounds.refused("23 FULL", Bounds::full, x -> x.longest(0), Due.FULL);
        Bounds.refused("23 FULL ahead of NONE", () -> fullWith(0), x -> x.longest(0), Due.FULL);
        Bounds.refused("23 NONE", () -> boiling(9, 8, 0), x -> x.longest(2), Due.NONE);
        for (int kind : new int[] {MIN, -1, 6, MAX}) {
            Bounds.refused("23 BEYOND ahead of FULL, " + kind, () -> fullWith(0), x -> x.longest(kind), Due.BEYOND);
            Bounds.refused("23 BEYOND ahead of NONE, " + kind, () -> boiling(9, 8, 0), x -> x.longest(kind), Due.BEYOND);
        }
        InkNights x = Bounds.rich();
        x.scribe(0, 1);
        x.scribe(0, 1);
        Due.is("23 with seven pages", x.longest(0), 99);
        x.scribe(0, 1);
        Due.is("23 with eight pages", x.longest(0), Due.FULL);
    }

    private static void promise24NightsAre1To20() {
        // After a day of SUN: 54, 42, 62, 19, 21. After 20 in the shade: 60, 45, 78, 0, 30, and in the SUN nothing;
        // the pairs of 100 and more are 0 and 1, 0 and 2, 1 and 2, 2 and 4: of the others 0, 1 and 3 are the least.
        Bounds.range("24 n", Bounds::rich, (x, v) -> x.sunny(v, 100), 1, 31, 20, 11);
        Bounds.changesNothing("24 sunny(20, 100)", Bounds::rich, x -> x.sunny(20, 100), 11);
    }

    private static void promise24BelievedIs0To9999() {
        Bounds.range("24 v", Bounds::rich, (x, v) -> x.sunny(1, v), 0, 31, 9999, Due.NONE);
        Bounds.range("24 v without pages", InkNights::new, (x, v) -> x.sunny(1, v), 0, 0, 9999, Due.NONE);
        Bounds.range("24 v with eight", Bounds::full, (x, v) -> x.sunny(20, v), 0, 255, 9999, Due.NONE);
        Bounds.refused("24 n and v", Bounds::rich, x -> x.sunny(0, -1), Due.BEYOND);
        Bounds.refused("24 n and v", Bounds::rich, x -> x.sunny(MIN, MIN), Due.BEYOND);
        Bounds.refused("24 n and v", Bounds::rich, x -> x.sunny(MAX, MAX), Due.BEYOND);
    }

    private static void promise24NoneOfThemAndAll() {
        // By 5 eight are BELIEVED 196 in the shade; all are white after 9 days of SUN.
        Bounds.taken("24 all in the shade", Bounds::full, x -> x.sunny(20, 196), 0);
        Bounds.refused("24 more than that", Bounds::full, x -> x.sunny(20, 197), Due.NONE);
        Bounds.taken("24 all in the SUN", Bounds::full, x -> x.sunny(20, 0), 255);
        Bounds.taken("24 one in the shade", Bounds::full, x -> x.sunny(20, 1), 127);
        Bounds.taken("24 the last of all in the shade", Bounds::full, x -> x.sunny(20, 44), 127);
        Bounds.taken("24 two in the shade", Bounds::full, x -> x.sunny(20, 45), 63);
        Bounds.taken("24 one in the SUN", Bounds::full, x -> x.sunny(20, 191), 1);
        Bounds.taken("24 none in the SUN", Bounds::full, x -> x.sunny(20, 192), 0);
        Bounds.taken("24 no pages, 0", InkNights::new, x -> x.sunny(20, 0), 0);
        Bounds.refused("24 no pages, 1", InkNights::new, x -> x.sunny(20, 1), Due.NONE);
    }

    private static void promise24OfSeveralTheLeast() {
        InkNights x = Bounds.full();
        for (int page = 0; page < 8; page++) {
            x.set(page, 2, 90);
        }
        // 50 each, and nothing once in the SUN.
        Due.is("24 any one in the SUN", x.sunny(20, 350), 1);
        Due.is("24 any two in the SUN", x.sunny(20, 300), 3);
        Due.is("24 any seven in the SUN", x.sunny(20, 50), 127);
        x.set(0, 2, 99);
        Due.is("24 any one but the first", x.sunny(20, 351), 2);
    }

    private static void promise24NoneAndOrder() {
        for (int n : new int[] {MIN, 0, 21, MAX}) {
            Bounds.refused("24 BEYOND ahead of NONE, " + n, InkNights::new, x -> x.sunny(n, 1), Due.BEYOND);
        }
        Bounds.refused("24 BEYOND ahead of NONE", InkNights::new, x -> x.sunny(1, 10000), Due.BEYOND);
    }
}
