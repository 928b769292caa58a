/** The bounds that promises 5 to 11 and the terms behind them name: pages and their KINDS. */
public final class BoundsPagesTest {
    private static final int MIN = Bounds.MIN;
    private static final int MAX = Bounds.MAX;

    public static void main(String[] args) {
        promise5KindIs0To5();
        promise5WordsAre1To99();
        promise5FullAtEight();
        promise5InkEnough();
        promise5FindingsInOrder();
        promise6Page();
        promise6WhatIs0To8();
        promise6CostsChangeAtTwenties();
        promise6LetterCosts1AtLeast();
        promise6TreatyTakesMoreFrom15On();
        promise6VerseTakes0AtLeast();
        promise6TakesAre99AtMost();
        promise6FadesInTheSun();
        promise6WillFadesOnceRead();
        promise6VerseFadesByFourthsOfRead();
        promise6DeedIsBelievedMoreAbove50();
        promise6LetterIsBelieved0AtLeast();
        promise6TreatyIsBelievedFromLamp5On();
        promise6WhiteIsBelieved0();
        promise6BelievedIsCut();
        promise7Page();
        promise7WhatIs1To4();
        promise7Words1To99();
        promise7Black0To99();
        promise7Sun0To1();
        promise7Read0To9999();
        promise8PageAndKind();
        promise9PageAndKind();
        promise9KindAboveAndBeside();
        promise10Page();
        promise10LampIs0();
        promise10ReadIsHeldTo9999();
        promise11Page();
        promise11InkEnough();
        promise11WhatStays();
        Due.end("BoundsPagesTest");
    }

    private static InkNights with(int ink) {
        InkNights x = Bounds.rich();
        x.jar(2, ink);
        return x;
    }

    private static InkNights fullWith(int ink) {
        InkNights x = Bounds.full();
        x.jar(2, ink);
        return x;
    }

    private static InkNights byLamp(int lamp) {
        InkNights x = Bounds.rich();
        x.jar(3, lamp);
        return x;
    }

    private static void promise5KindIs0To5() {
        Bounds.range("5 kind", Bounds::rich, (x, v) -> x.scribe(v, 1), 0, 5, 5, 5);
        Bounds.range("5 kind in a new one", InkNights::new, (x, v) -> x.scribe(v, 1), 0, 0, 5, 0);
        for (int kind = 0; kind < 6; kind++) {
            InkNights x = Bounds.rich();
            x.scribe(kind, 1);
            Due.is("5 of KIND " + kind, x.of(5, 0), kind);
        }
    }

    private static void promise5WordsAre1To99() {
        Bounds.range("5 words", Bounds::rich, (x, v) -> x.scribe(0, v), 1, 5, 99, 5);
        Bounds.range("5 words in a new one", InkNights::new, (x, v) -> x.scribe(2, v), 1, 0, 99, 0);
        for (int words : new int[] {1, 99}) {
            InkNights x = Bounds.rich();
            x.scribe(3, words);
            Due.is("5 of WORDS " + words, x.of(5, 1), words);
        }
        Bounds.refused("5 kind and words", Bounds::rich, x -> x.scribe(6, 0), Due.BEYOND);
        Bounds.refused("5 kind and words", Bounds::rich, x -> x.scribe(MIN, MAX), Due.BEYOND);
        Bounds.refused("5 kind and words", Bounds::rich, x -> x.scribe(MAX, MIN), Due.BEYOND);
    }

    private static void promise5FullAtEight() {
        InkNights x = Bounds.rich();
        for (int page = 5; page < 8; page++) {
            Due.is("5 up to the eighth", x.scribe(0, 1), page);
        }
        Due.is("5 a ninth", x.scribe(0, 1), Due.FULL);
        Bounds.refused("5 a ninth", Bounds::full, y -> y.scribe(0, 1), Due.FULL);
        Bounds.refused("5 a ninth", Bounds::full, y -> y.scribe(5, 99), Due.FULL);
    }

    private static void promise5InkEnough() {
        // What 60 WORDS cost of each KIND.
        int[] costs = {4, 6, 2, 8, 5, 3};
        for (int kind = 0; kind < 6; kind++) {
            int of = kind;
            int cost = costs[kind];
            Bounds.refused("5 INK is 1 less, KIND " + kind, () -> with(cost - 1), x -> x.scribe(of, 60), Due.STATE);
            Bounds.refused("5 INK is 0, KIND " + kind, () -> with(0), x -> x.scribe(of, 1), Due.STATE);
            InkNights x = with(cost);
            Due.is("5 INK is just enough, KIND " + kind, x.scribe(kind, 60), 5);
            Due.is("5 INK is 0 then, KIND " + kind, x.now(4), 0);
        }
        InkNights x = with(999);
        x.scribe(0, 1);
        Due.is("5 INK of 999", x.now(4), 998);
    }

    private static void promise5FindingsInOrder() {
        Bounds.refused("5 BEYOND ahead of FULL, STATE", () -> fullWith(0), x -> x.scribe(6, 1), Due.BEYOND);
        Bounds.refused("5 BEYOND ahead of FULL, STATE", () -> fullWith(0), x -> x.scribe(-1, 1), Due.BEYOND);
        Bounds.refused("5 BEYOND ahead of FULL, STATE", () -> fullWith(0), x -> x.scribe(0, 0), Due.BEYOND);
        Bounds.refused("5 BEYOND ahead of FULL, STATE", () -> fullWith(0), x -> x.scribe(0, 100), Due.BEYOND);
        Bounds.refused("5 BEYOND ahead of STATE", () -> with(0), x -> x.scribe(0, 100), Due.BEYOND);
        Bounds.refused("5 BEYOND ahead of STATE", () -> with(0), x -> x.scribe(6, 1), Due.BEYOND);
        Bounds.refused("5 FULL ahead of STATE", () -> fullWith(0), x -> x.scribe(0, 1), Due.FULL);
    }

    private static void promise6Page() {
        Bounds.pages("6 page", (x, v) -> x.of(v, 2));
        Bounds.taken("6 the first", Bounds::rich, x -> x.of(0, 2), 90);
        Bounds.taken("6 the last of five", Bounds::rich, x -> x.of(4, 2), 30);
        Bounds.taken("6 the last of eight", Bounds::full, x -> x.of(7, 2), 80);
    }

    private static void promise6WhatIs0To8() {
        Bounds.range("6 what", Bounds::rich, (x, v) -> x.of(2, v), 0, 4, 8, 78);
        int[] due = {4, 60, 51, 1, 2, 5, 46, 4, 78};
        for (int what = 0; what < due.length; what++) {
            int which = what;
            Bounds.changesNothing("6 of(2, " + what + ")", Bounds::rich, x -> x.of(2, which), due[what]);
        }
        Bounds.refused("6 page and what", Bounds::rich, x -> x.of(5, 9), Due.BEYOND);
        Bounds.refused("6 page and what", Bounds::rich, x -> x.of(MIN, MAX), Due.BEYOND);
        Bounds.refused("6 page and what", Bounds::rich, x -> x.of(MAX, MIN), Due.BEYOND);
    }

    private static int costs(int kind, int words) {
        InkNights x = Bounds.rich();
        x.turn(0, kind);
        x.set(0, 1, words);
        return x.of(0, 5);
    }

    private static void promise6CostsChangeAtTwenties() {
        int[] words = {1, 19, 20, 39, 40, 59, 60, 79, 80, 99};
        int[][] due = {
            {1, 1, 2, 2, 3, 3, 4, 4, 5, 5}, {3, 3, 4, 4, 5, 5, 6, 6, 7, 7}, {1, 1, 1, 1, 1, 1, 2, 2, 2, 2},
            {2, 2, 4, 4, 6, 6, 8, 8, 10, 10}, {2, 2, 3, 3, 4, 4, 5, 5, 6, 6}, {2, 2, 2, 2, 2, 2, 3, 3, 3, 3}};
        for (int kind = 0; kind < 6; kind++) {
            for (int i = 0; i < words.length; i++) {
                Due.is("6 COSTS of KIND " + kind + ", WORDS " + words[i], costs(kind, words[i]), due[kind][i]);
            }
        }
    }

    private static void promise6LetterCosts1AtLeast() {
        Due.is("6 half of 1 would be 0", costs(2, 1), 1);
        Due.is("6 half of 2", costs(2, 20), 1);
        Due.is("6 half of 3 is cut", costs(2, 40), 1);
        Due.is("6 a VERSE is 1 more than the 1 at least", costs(5, 1), 2);
    }

    private static int takes(int kind, int dark) {
        InkNights x = Bounds.rich();
        x.turn(0, kind);
        x.dark(1, dark);
        int takes = x.of(0, 6);
        Due.is("6 and 11 over() as it TAKES", x.over(0), takes);
        x.scribe(kind, 1);
        Due.is("6 and 5 scribe() as it TAKES", x.of(5, 2), takes);
        return takes;
    }

    private static void promise6TreatyTakesMoreFrom15On() {
        Due.is("6 a TREATY TAKES of 0", takes(3, 0), 0);
        Due.is("6 a TREATY TAKES of 14", takes(3, 14), 56);
        Due.is("6 a TREATY TAKES of 15", takes(3, 15), 75);
        Due.is("6 a PAGE TAKES of 15", takes(0, 15), 60);
        Due.is("6 a LETTER TAKES of 15", takes(2, 15), 60);
    }

    private static void promise6VerseTakes0AtLeast() {
        Due.is("6 a VERSE TAKES of 0", takes(5, 0), 0);
        Due.is("6 a VERSE TAKES of 1", takes(5, 1), 0);
        Due.is("6 a VERSE TAKES of 2", takes(5, 2), 3);
        Due.is("6 a LETTER TAKES of 1", takes(2, 1), 4);
    }

    private static void promise6TakesAre99AtMost() {
        Due.is("6 a TREATY TAKES of 20", takes(3, 20), 99);
        Due.is("6 a TREATY TAKES of 19", takes(3, 19), 95);
        int[] of20 = {80, 90, 80, 99, 90, 75};
        int[] of0 = {0, 10, 0, 0, 10, 0};
        for (int kind = 0; kind < 6; kind++) {
            Due.is("6 TAKES of 20, KIND " + kind, takes(kind, 20), of20[kind]);
            Due.is("6 TAKES of 0, KIND " + kind, takes(kind, 0), of0[kind]);
        }
    }

    private static int fades(int kind, int sun, int read) {
        InkNights x = Bounds.rich();
        x.turn(0, kind);
        x.set(0, 3, sun);
        x.set(0, 4, read);
        return x.of(0, 7);
    }

    private static void promise6FadesInTheSun() {
        int[] inSun = {9, 4, 10, 9, 0, 10};
        int[] inShade = {0, 0, 1, 0, 0, 1};
        for (int kind = 0; kind < 6; kind++) {
            Due.is("6 FADES in the SUN, KIND " + kind, fades(kind, 1, 0), inSun[kind]);
            Due.is("6 FADES in the shade, KIND " + kind, fades(kind, 0, 0), inShade[kind]);
        }
    }

    private static void promise6WillFadesOnceRead() {
        Due.is("6 a WILL FADES, READ 0", fades(4, 1, 0), 0);
        Due.is("6 a WILL FADES, READ 1", fades(4, 1, 1), 4);
        Due.is("6 a WILL FADES, READ 9999", fades(4, 1, 9999), 4);
        Due.is("6 a WILL FADES in the shade, READ 1", fades(4, 0, 1), 0);
        Due.is("6 a DEED FADES, READ 0", fades(1, 1, 0), 4);
    }

    private static void promise6VerseFadesByFourthsOfRead() {
        int[][] due = {{0, 1}, {3, 1}, {4, 2}, {7, 2}, {8, 3}, {9996, 2500}, {9999, 2500}};
        for (int[] row : due) {
            Due.is("6 a VERSE FADES, READ " + row[0], fades(5, 0, row[0]), row[1]);
            Due.is("6 a VERSE FADES in the SUN, READ " + row[0], fades(5, 1, row[0]), row[1] + 9);
        }
        Due.is("6 a LETTER FADES, READ 9999", fades(2, 0, 9999), 1);
    }

    private static int believed(int kind, int black, int read, int lamp) {
        InkNights x = byLamp(lamp);
        x.turn(0, kind);
        x.set(0, 2, black);
        x.set(0, 4, read);
        int believed = x.of(0, 8);
        Due.is("6 and 14 on() as it is BELIEVED", x.on(0, 0, 1), believed);
        return believed;
    }

    private static void promise6DeedIsBelievedMoreAbove50() {
        Due.is("6 a DEED of 50", believed(1, 50, 0, 9), 50);
        Due.is("6 a DEED of 51", believed(1, 51, 0, 9), 56);
        Due.is("6 a WILL of 50", believed(4, 50, 0, 9), 100);
        Due.is("6 a WILL of 51", believed(4, 51, 0, 9), 112);
        Due.is("6 a DEED of 51 by 0", believed(1, 51, 0, 0), 5);
        Due.is("6 a DEED of 50 by 0", believed(1, 50, 0, 0), 0);
        Due.is("6 a WILL of 99 by 9", believed(4, 99, 0, 9), 208);
        Due.is("6 a PAGE of 51", believed(0, 51, 0, 9), 51);
    }

    private static void promise6LetterIsBelieved0AtLeast() {
        Due.is("6 a LETTER of 40, READ 39", believed(2, 40, 39, 9), 1);
        Due.is("6 a LETTER of 40, READ 40", believed(2, 40, 40, 9), 0);
        Due.is("6 a LETTER of 40, READ 41", believed(2, 40, 41, 9), 0);
        Due.is("6 a LETTER of 40, READ 9999", believed(2, 40, 9999, 9), 0);
        Due.is("6 a VERSE of 40, READ 39", believed(5, 40, 39, 9), 10);
        Due.is("6 a VERSE of 40, READ 41", believed(5, 40, 41, 9), 9);
        Due.is("6 a VERSE of 40, READ 9999", believed(5, 40, 9999, 9), 9);
        Due.is("6 a PAGE of 40, READ 9999", believed(0, 40, 9999, 9), 40);
    }

    private static void promise6TreatyIsBelievedFromLamp5On() {
        int[] due = {0, 0, 0, 0, 0, 30, 30, 30, 30, 30};
        for (int lamp = 0; lamp < due.length; lamp++) {
            Due.is("6 a TREATY by " + lamp, believed(3, 30, 0, lamp), due[lamp]);
        }
    }

    private static void promise6WhiteIsBelieved0() {
        int[] of1 = {1, 1, 1, 1, 2, 10};
        for (int kind = 0; kind < 6; kind++) {
            Due.is("6 a white one by 9, KIND " + kind, believed(kind, 0, 0, 9), 0);
            Due.is("6 one of BLACK 1 by 9, KIND " + kind, believed(kind, 1, 0, 9), of1[kind]);
        }
    }

    private static void promise6BelievedIsCut() {
        // 17 times 1 by 9 is 1 and more, 18 times 1 is 2; of a WILL it is cut ahead of being twice as much.
        Due.is("6 a PAGE of 17 by 1", believed(0, 17, 0, 1), 1);
        Due.is("6 a PAGE of 18 by 1", believed(0, 18, 0, 1), 2);
        Due.is("6 a PAGE of 8 by 1", believed(0, 8, 0, 1), 0);
        Due.is("6 a WILL of 17 by 1", believed(4, 17, 0, 1), 2);
        Due.is("6 a VERSE of 1 by 1", believed(5, 1, 0, 1), 1);
    }

    private static void promise7Page() {
        Bounds.pages("7 page", (x, v) -> x.set(v, 2, 1));
        InkNights x = Bounds.full();
        Due.is("7 the last of eight", x.set(7, 2, 99), 80);
        Due.is("7 it becomes so", x.of(7, 2), 99);
        Due.is("7 the one ahead stays", x.of(6, 2), 70);
    }

    private static void promise7WhatIs1To4() {
        Bounds.range("7 what", Bounds::rich, (x, v) -> x.set(2, v, 1), 1, 60, 4, 2);
        Bounds.refused("7 KIND (what 0)", Bounds::rich, x -> x.set(2, 0, 0), Due.BEYOND);
        Bounds.refused("7 what 5", Bounds::rich, x -> x.set(2, 5, 0), Due.BEYOND);
        Bounds.refused("7 page, what and v", Bounds::rich, x -> x.set(5, 0, -1), Due.BEYOND);
        Bounds.refused("7 page, what and v", Bounds::rich, x -> x.set(MIN, MIN, MIN), Due.BEYOND);
        Bounds.refused("7 page, what and v", Bounds::rich, x -> x.set(MAX, MAX, MAX), Due.BEYOND);
    }

    private static void becomes(String what, int which, int... values) {
        for (int v : values) {
            InkNights x = Bounds.rich();
            int[] due = {4, 60, 51, 1, 2};
            due[which] = v;
            x.set(2, which, v);
            for (int i = 0; i < due.length; i++) {
                Due.is(what + " becomes " + v + ", then of(2, " + i + ")", x.of(2, i), due[i]);
            }
        }
    }

    private static void promise7Words1To99() {
        Bounds.range("7 WORDS", Bounds::rich, (x, v) -> x.set(2, 1, v), 1, 60, 99, 60);
        becomes("7 WORDS", 1, 1, 99);
    }

    private static void promise7Black0To99() {
        Bounds.range("7 BLACK", Bounds::rich, (x, v) -> x.set(2, 2, v), 0, 51, 99, 51);
        becomes("7 BLACK", 2, 0, 99);
    }

    private static void promise7Sun0To1() {
        Bounds.range("7 SUN", Bounds::rich, (x, v) -> x.set(2, 3, v), 0, 1, 1, 1);
        becomes("7 SUN", 3, 0, 1);
    }

    private static void promise7Read0To9999() {
        Bounds.range("7 READ", Bounds::rich, (x, v) -> x.set(2, 4, v), 0, 2, 9999, 2);
        becomes("7 READ", 4, 0, 9999);
    }

    private static void promise8PageAndKind() {
        Bounds.pages("8 page", (x, v) -> x.turn(v, 3));
        Bounds.range("8 kind", Bounds::rich, (x, v) -> x.turn(2, v), 0, 4, 5, 4);
        Bounds.refused("8 page and kind", Bounds::rich, x -> x.turn(5, 6), Due.BEYOND);
        Bounds.refused("8 page and kind", Bounds::rich, x -> x.turn(MIN, MAX), Due.BEYOND);
        Bounds.changesNothing("8 to the KIND that it is of", Bounds::rich, x -> x.turn(2, 4), 4);
        for (int kind : new int[] {0, 5}) {
            InkNights x = Bounds.rich();
            x.turn(2, kind);
            int[] due = {kind, 60, 51, 1, 2};
            for (int what = 0; what < due.length; what++) {
                Due.is("8 to " + kind + ", then of(2, " + what + ")", x.of(2, what), due[what]);
            }
            Due.is("8 it costs no INK", x.now(4), 50);
        }
    }

    private static void promise9PageAndKind() {
        Bounds.pages("9 page", (x, v) -> x.as(v, 0));
        Bounds.range("9 kind", () -> turned(5), (x, v) -> x.as(2, v), 0, 51, 5, 51);
        Bounds.refused("9 page and kind", Bounds::rich, x -> x.as(5, 6), Due.BEYOND);
        Bounds.refused("9 page ahead of KIND", Bounds::rich, x -> x.as(5, 1), Due.BEYOND);
        Bounds.refused("9 kind ahead of KIND", Bounds::rich, x -> x.as(0, 6), Due.BEYOND);
        Bounds.refused("9 kind ahead of KIND", Bounds::rich, x -> x.as(0, -1), Due.BEYOND);
    }

    private static InkNights turned(int kind) {
        InkNights x = Bounds.rich();
        x.turn(2, kind);
        return x;
    }

    private static void promise9KindAboveAndBeside() {
        int[][] may = {{0}, {0, 1}, {0, 2}, {0, 3}, {0, 1, 4}, {0, 2, 5}};
        for (int kind = 0; kind < 6; kind++) {
            int of = kind;
            for (int wanted = 0; wanted < 6; wanted++) {
                int as = wanted;
                String what = "9 KIND " + kind + " as " + wanted;
                if (java.util.Arrays.binarySearch(may[kind], wanted) >= 0) {
                    Bounds.changesNothing(what, () -> turned(of), x -> x.as(2, as), 51);
                } else {
                    Bounds.refused(what, () -> turned(of), x -> x.as(2, as), Due.KIND);
                }
            }
        }
        InkNights x = turned(5);
        x.set(2, 2, 0);
        Due.is("9 a white one", x.as(2, 2), 0);
    }

    private static void promise10Page() {
        Bounds.pages("10 page", (x, v) -> x.looks(v));
    }

    private static void promise10LampIs0() {
        Bounds.refused("10 LAMP is 0", () -> byLamp(0), x -> x.looks(0), Due.STATE);
        Bounds.refused("10 LAMP is 0", () -> byLamp(0), x -> x.looks(4), Due.STATE);
        Bounds.taken("10 LAMP is 1", () -> byLamp(1), x -> x.looks(0), 10);
        Bounds.taken("10 LAMP is 9", () -> byLamp(9), x -> x.looks(0), 90);
        Bounds.refused("10 BEYOND ahead of STATE", () -> byLamp(0), x -> x.looks(5), Due.BEYOND);
        Bounds.refused("10 BEYOND ahead of STATE", () -> byLamp(0), x -> x.looks(MIN), Due.BEYOND);
    }

    private static void promise10ReadIsHeldTo9999() {
        InkNights x = Bounds.rich();
        // A VERSE of 40 by 6 is BELIEVED 26 less 6, and 6; then 26 less 7, and 6.
        Due.is("10 ahead of that", x.looks(3), 26);
        Due.is("10 READ is 1 more then", x.of(3, 4), 7);
        Due.is("10 again", x.looks(3), 25);
        Due.is("10 another isn't READ", x.of(2, 4), 2);
        x.set(3, 4, 9998);
        Due.is("10 READ 9998", x.looks(3), 6);
        Due.is("10 READ is 9999 then", x.of(3, 4), 9999);
        Due.is("10 READ 9999", x.looks(3), 6);
        Due.is("10 READ is held", x.of(3, 4), 9999);
        x.set(3, 2, 0);
        Due.is("10 a white one", x.looks(3), 0);
    }

    private static void promise11Page() {
        Bounds.pages("11 page", (x, v) -> x.over(v));
    }

    private static void promise11InkEnough() {
        int[] costs = {2, 5, 5, 3, 4};
        int[] due = {36, 46, 46, 31, 36};
        for (int p = 0; p < 5; p++) {
            int page = p;
            int cost = costs[p];
            Bounds.refused("11 INK is 1 less, page " + p, () -> with(cost - 1), x -> x.over(page), Due.STATE);
            Bounds.refused("11 INK is 0, page " + p, () -> with(0), x -> x.over(page), Due.STATE);
            InkNights x = with(cost);
            Due.is("11 INK is just enough, page " + p, x.over(p), due[p]);
            Due.is("11 INK is 0 then, page " + p, x.now(4), 0);
        }
        Bounds.refused("11 BEYOND ahead of STATE", () -> with(0), x -> x.over(5), Due.BEYOND);
        Bounds.refused("11 BEYOND ahead of STATE", () -> with(0), x -> x.over(MAX), Due.BEYOND);
    }

    private static void promise11WhatStays() {
        InkNights x = Bounds.rich();
        x.over(2);
        int[] due = {4, 60, 46, 1, 0};
        for (int what = 0; what < due.length; what++) {
            Due.is("11 then of(2, " + what + ")", x.of(2, what), due[what]);
        }
        Due.is("11 then now(4)", x.now(4), 45);
        InkNights y = Bounds.full();
        Due.is("11 with eight pages", y.over(7), 16);
        Due.is("11 still eight", y.count(0), 8);
        InkNights z = Bounds.rich();
        z.dark(1, 0);
        Due.is("11 in a NIGHT of DARK 0", z.over(0), 0);
        Due.is("11 it is white then", z.now(6), 30);
    }
}
