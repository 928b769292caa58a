/** The bounds that promises 1 to 4 and the terms behind them name: the new object, the jar, the dark. */
public final class BoundsJarTest {
    private static final int MIN = Bounds.MIN;
    private static final int MAX = Bounds.MAX;

    public static void main(String[] args) {
        promise1NoPages();
        promise1TheTapeIsEmpty();
        promise1NoImageIsKept();
        promise1SheetsAreMissing();
        promise1FirstNumbers();
        promise2Brothers0To9();
        promise2Buckets0To8();
        promise2Ink0To999();
        promise2Lamp0To9();
        promise2WhatIs0To3();
        promise3PlaceIs0To11();
        promise3DarkIs0To20();
        promise4WhatIs0To7();
        promise4PlaceIsTheRestBy12();
        promise4WhiteIsBlack0();
        promise4BelievedOfNoneAndOfAll();
        Due.end("BoundsJarTest");
    }

    private static void promise1NoPages() {
        Bounds.taken("1 count(0)", InkNights::new, x -> x.count(0), 0);
        Bounds.refused("1 of(0, 0)", InkNights::new, x -> x.of(0, 0), Due.BEYOND);
        Bounds.taken("1 now(6)", InkNights::new, x -> x.now(6), 0);
        Bounds.taken("1 count(2)", InkNights::new, x -> x.count(2), 0);
        Bounds.taken("1 count(3)", InkNights::new, x -> x.count(3), 0);
    }

    private static void promise1TheTapeIsEmpty() {
        Bounds.taken("1 count(1)", InkNights::new, x -> x.count(1), 0);
        Bounds.changesNothing("1 wipe()", InkNights::new, x -> x.wipe(), 0);
        Bounds.changesNothing("1 text()", InkNights::new, x -> x.text(), -1);
    }

    private static void promise1NoImageIsKept() {
        Bounds.refused("1 undo()", InkNights::new, x -> x.undo(), Due.NONE);
        Bounds.changesNothing("1 tear()", InkNights::new, x -> x.tear(), 0);
    }

    private static void promise1SheetsAreMissing() {
        for (int s = 0; s < 4; s++) {
            int sheet = s;
            Bounds.refused("1 write(" + s + ", 0, 0)", InkNights::new, x -> x.write(sheet, 0, 0), Due.MISSING);
        }
    }

    private static void promise1FirstNumbers() {
        int[] now = {0, 4, 3, 0, 5, 5, 0, 0};
        for (int what = 0; what < now.length; what++) {
            int which = what;
            Bounds.taken("1 now(" + what + ")", InkNights::new, x -> x.now(which), now[what]);
        }
        // 4, and the rest of 0, 5, 10, 15, .. 55 by 13.
        int[] dark = {4, 9, 14, 6, 11, 16, 8, 13, 5, 10, 15, 7};
        for (int place = 0; place < dark.length; place++) {
            int which = place;
            Bounds.taken("1 dark(" + place + ", 0)", InkNights::new, x -> x.dark(which, 0), dark[place]);
        }
        Bounds.taken("1 status(-1)", InkNights::new, x -> x.status(-1), 0);
    }

    private static void becomes(String what, int which, int seenAs, int most) {
        for (int v : new int[] {0, most}) {
            InkNights x = Bounds.rich();
            x.jar(which, v);
            Due.is(what + " becomes " + v, x.now(seenAs), v);
            Due.is(what + " of " + v + ", the others stay", x.now(seenAs == 2 ? 5 : 2), seenAs == 2 ? 6 : 2);
        }
    }

    private static void promise2Brothers0To9() {
        Bounds.range("2 BROTHERS", Bounds::rich, (x, v) -> x.jar(0, v), 0, 2, 9, 2);
        becomes("2 BROTHERS", 0, 2, 9);
    }

    private static void promise2Buckets0To8() {
        Bounds.range("2 BUCKETS", Bounds::rich, (x, v) -> x.jar(1, v), 0, 4, 8, 4);
        becomes("2 BUCKETS", 1, 3, 8);
    }

    private static void promise2Ink0To999() {
        Bounds.range("2 INK", Bounds::rich, (x, v) -> x.jar(2, v), 0, 50, 999, 50);
        becomes("2 INK", 2, 4, 999);
    }

    private static void promise2Lamp0To9() {
        Bounds.range("2 LAMP", Bounds::rich, (x, v) -> x.jar(3, v), 0, 6, 9, 6);
        becomes("2 LAMP", 3, 5, 9);
    }

    private static void promise2WhatIs0To3() {
        Bounds.range("2 what", Bounds::rich, (x, v) -> x.jar(v, 0), 0, 2, 3, 6);
        Bounds.range("2 what in a new one", InkNights::new, (x, v) -> x.jar(v, 1), 0, 3, 3, 5);
        Bounds.refused("2 what and v", Bounds::rich, x -> x.jar(4, -1), Due.BEYOND);
        Bounds.refused("2 what and v", Bounds::rich, x -> x.jar(MIN, MAX), Due.BEYOND);
        Bounds.refused("2 what and v", Bounds::rich, x -> x.jar(MAX, MIN), Due.BEYOND);
        Bounds.refused("2 what, with the v that another -1 would be", Bounds::rich, x -> x.jar(4, MIN), Due.BEYOND);
    }

    private static void promise3PlaceIs0To11() {
        Bounds.range("3 place", Bounds::rich, (x, v) -> x.dark(v, 3), 0, 4, 11, 7);
        Bounds.refused("3 place and v", Bounds::rich, x -> x.dark(12, 21), Due.BEYOND);
        Bounds.refused("3 place and v", Bounds::rich, x -> x.dark(MIN, MIN), Due.BEYOND);
        Bounds.refused("3 place and v", Bounds::rich, x -> x.dark(MAX, MAX), Due.BEYOND);
    }

    private static void promise3DarkIs0To20() {
        Bounds.range("3 DARK of place 0", Bounds::rich, (x, v) -> x.dark(0, v), 0, 4, 20, 4);
        Bounds.range("3 DARK of place 11", Bounds::rich, (x, v) -> x.dark(11, v), 0, 7, 20, 7);
        for (int v : new int[] {0, 20}) {
            InkNights x = Bounds.rich();
            x.dark(1, v);
            Due.is("3 DARK becomes " + v, x.now(1), v);
            Due.is("3 DARK of " + v + ", another stays", x.dark(0, v), 4);
            Due.is("3 DARK of " + v + ", another stays", x.dark(2, v), 14);
        }
    }

    private static void promise4WhatIs0To7() {
        Bounds.range("4 what", Bounds::rich, (x, v) -> x.now(v), 0, 13, 7, 239);
        Bounds.range("4 what in a new one", InkNights::new, (x, v) -> x.now(v), 0, 0, 7, 0);
        int[] now = {13, 9, 2, 4, 50, 6, 31, 239};
        for (int what = 0; what < now.length; what++) {
            int which = what;
            Bounds.changesNothing("4 now(" + what + ")", Bounds::rich, x -> x.now(which), now[what]);
        }
    }

    private static void promise4PlaceIsTheRestBy12() {
        InkNights x = new InkNights();
        int[] dark = {4, 9, 14, 6, 11, 16, 8, 13, 5, 10, 15, 7, 4, 9};
        for (int night = 0; night < dark.length; night++) {
            Due.is("4 NIGHT " + night, x.now(0), night);
            Due.is("4 DARK of NIGHT " + night, x.now(1), dark[night]);
            x.nights(1);
        }
        Bounds.taken("4 NIGHT 9999", Bounds::last, y -> y.now(0), 9999);
        // 9999 is 833 times 12, and 3.
        Bounds.taken("4 DARK of NIGHT 9999", Bounds::last, y -> y.now(1), 6);
    }

    private static void promise4WhiteIsBlack0() {
        InkNights x = Bounds.full();
        Due.is("4 none of eight is white", x.now(6), 255);
        x.set(0, 2, 1);
        Due.is("4 BLACK 1 isn't white", x.now(6), 255);
        x.set(0, 2, 0);
        Due.is("4 the first is white", x.now(6), 254);
        x.set(7, 2, 0);
        Due.is("4 the last is white", x.now(6), 126);
        for (int page = 1; page < 7; page++) {
            x.set(page, 2, 0);
        }
        Due.is("4 all are white", x.now(6), 0);
        Due.is("4 all white ones are BELIEVED", x.now(7), 0);
    }

    private static void promise4BelievedOfNoneAndOfAll() {
        InkNights x = Bounds.full();
        // By 5, cut one by one: 5, 11, 16, 22, 27, 33, 38, 44.
        Due.is("4 eight are BELIEVED", x.now(7), 196);
        x.jar(3, 0);
        Due.is("4 eight are BELIEVED by none", x.now(7), 0);
        x.jar(3, 9);
        Due.is("4 eight are BELIEVED by 9", x.now(7), 360);
        for (int page = 0; page < 8; page++) {
            x.turn(page, 4);
            x.set(page, 2, 99);
        }
        Due.is("4 most that can be BELIEVED", x.now(7), 8 * 208);
    }
}
