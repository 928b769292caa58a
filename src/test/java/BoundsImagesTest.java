/** The bounds that promises 34 to 38 and the terms behind them name: images, count and status. */
public final class BoundsImagesTest {
    private static final int MIN = Bounds.MIN;
    private static final int MAX = Bounds.MAX;

    public static void main(String[] args) {
        promise34OfNothingAndOfAll();
        promise34TheTapeIsNotKept();
        promise35NothingIsKept();
        promise35WhatWasKeptLatestStays();
        promise35FullAndEmpty();
        promise35TheLastNight();
        promise35WhatIsNotTakenBack();
        promise36Tear();
        promise37WhatIs0To3();
        promise37EmptyAndFull();
        promise38WhichIsMinus1To6();
        promise38AnotherOneIsCounted();
        promise38EachFinding();
        promise38NoFindings();
        promise38ManyFindings();
        Due.end("BoundsImagesTest");
    }

    private static void promise34OfNothingAndOfAll() {
        Bounds.taken("34 a new one", InkNights::new, x -> x.image(), 1);
        Bounds.taken("34 once more", Bounds::rich, x -> x.image(), 1);
        InkNights x = Bounds.rich();
        x.image();
        Due.is("34 nothing is changed", x.now(7), 239);
        Due.is("34 it is no finding", x.status(-1), 3);
    }

    private static void promise34TheTapeIsNotKept() {
        InkNights x = Bounds.full();
        x.image();
        x.wipe();
        x.undo();
        Due.is("34 an empty tape stays empty", x.count(1), 0);
        InkNights y = new InkNights();
        y.image();
        Due.feed(y, Bounds.LONGEST_TEXT);
        y.undo();
        Due.is("34 a full tape stays full", y.count(1), 120);
        Due.is("34 a full tape is told", y.text(), 7);
    }

    private static void promise35NothingIsKept() {
        Bounds.refused("35 a new one", InkNights::new, x -> x.undo(), Due.NONE);
        Bounds.refused("35 after tear()", () -> torn(Bounds.rich()), x -> x.undo(), Due.NONE);
        Bounds.refused("35 a full one after tear()", () -> torn(Bounds.full()), x -> x.undo(), Due.NONE);
    }

    private static InkNights torn(InkNights x) {
        x.tear();
        return x;
    }

    private static InkNights undone() {
        InkNights x = Bounds.rich();
        x.undo();
        return x;
    }

    private static void promise35WhatWasKeptLatestStays() {
        Bounds.taken("35 undo()", Bounds::rich, x -> x.undo(), 5);
        Bounds.changesNothing("35 undo() again", BoundsImagesTest::undone, x -> x.undo(), 5);
        InkNights x = Bounds.rich();
        x.undo();
        Due.is("35 NIGHT", x.now(0), 0);
        Due.is("35 BROTHERS", x.now(2), 3);
        Due.is("35 BUCKETS", x.now(3), 0);
        Due.is("35 INK", x.now(4), 81);
        Due.is("35 LAMP", x.now(5), 5);
        Due.is("35 DARK", x.dark(5, 1), 16);
        int[] black = {16, 26, 26, 11, 16};
        for (int page = 0; page < black.length; page++) {
            Due.is("35 BLACK of " + page, x.of(page, 2), black[page]);
            Due.is("35 SUN of " + page, x.of(page, 3), 0);
            Due.is("35 READ of " + page, x.of(page, 4), 0);
        }
        x.jar(2, 1);
        x.image();
        x.jar(2, 2);
        x.image();
        x.jar(2, 3);
        x.undo();
        Due.is("35 the latest of several", x.now(4), 2);
    }

    private static void promise35FullAndEmpty() {
        InkNights x = new InkNights();
        x.image();
        for (int page = 0; page < 5; page++) {
            x.scribe(2, 1);
            x.set(page, 3, 1);
            x.set(page, 4, 7);
        }
        Due.is("35 to none", x.undo(), 0);
        Due.is("35 the pages are gone", x.of(0, 0), Due.BEYOND);
        Due.is("35 INK is there again", x.now(4), 5);
        Due.is("35 the next is 0 again", x.scribe(0, 99), 0);
        Due.is("35 and isn't READ", x.of(0, 4), 0);
        Due.is("35 and doesn't lie in the SUN", x.of(0, 3), 0);
        InkNights y = Bounds.full();
        y.image();
        y.set(7, 2, 1);
        Due.is("35 to eight", y.undo(), 8);
        Due.is("35 to eight, the last", y.of(7, 2), 80);
        Due.is("35 to eight, a ninth", y.scribe(0, 1), Due.FULL);
        InkNights z = Bounds.full();
        z.image();
        Due.is("35 with nothing between", z.undo(), 8);
    }

    private static void promise35TheLastNight() {
        InkNights x = new InkNights();
        for (int i = 0; i < 99; i++) {
            x.nights(100);
        }
        x.image();
        x.nights(99);
        Due.is("35 at the last NIGHT", x.nights(1), Due.STATE);
        x.undo();
        Due.is("35 NIGHT is 9900 again", x.now(0), 9900);
        Due.is("35 nights may go again", x.nights(99) > Due.BEYOND ? x.now(0) : -1, 9999);
    }

    private static void promise35WhatIsNotTakenBack() {
        InkNights x = Bounds.rich();
        x.image();
        x.sheet(0, 16, 40);
        x.write(0, 39, 1234);
        x.sheet(1, 0, 0);
        x.jar(9, 9);
        x.undo();
        Due.is("35 a sheet stays", x.write(0, 39, 1), 1234);
        Due.is("35 a MISSING one stays so", x.write(1, 0, 1), Due.MISSING);
        Due.is("35 findings stay", x.status(0), 2);
        Due.is("35 findings stay", x.status(-1), 5);
    }

    private static void promise36Tear() {
        Bounds.changesNothing("36 nothing was", InkNights::new, x -> x.tear(), 0);
        Bounds.taken("36 something was", Bounds::rich, x -> x.tear(), 1);
        Bounds.changesNothing("36 once more", () -> torn(Bounds.rich()), x -> x.tear(), 0);
        InkNights x = Bounds.rich();
        x.image();
        x.image();
        Due.is("36 however often it was kept", x.tear(), 1);
        Due.is("36 nothing is kept", x.undo(), Due.NONE);
        Due.is("36 what there is stays", x.now(7), 239);
        x.image();
        Due.is("36 and kept anew", x.undo(), 5);
        x.undo();
        Due.is("36 undo() doesn't tear", x.tear(), 1);
    }

    private static void promise37WhatIs0To3() {
        // WORDS 30, 45, 60, 99 and 20.
        Bounds.range("37 what", Bounds::rich, (x, v) -> x.count(v), 0, 5, 3, 254);
        Bounds.range("37 what of a new one", InkNights::new, (x, v) -> x.count(v), 0, 0, 3, 0);
        int[] due = {5, 15, 2, 254};
        for (int what = 0; what < due.length; what++) {
            int which = what;
            Bounds.changesNothing("37 count(" + what + ")", Bounds::rich, x -> x.count(which), due[what]);
        }
    }

    private static void promise37EmptyAndFull() {
        InkNights x = Bounds.full();
        Due.is("37 PAGES", x.count(0), 8);
        Due.is("37 bytes", x.count(1), 120);
        Due.is("37 the last lies in the SUN", x.count(2), 1);
        Due.is("37 WORDS", x.count(3), 8);
        for (int page = 0; page < 8; page++) {
            x.set(page, 1, 99);
            x.set(page, 3, 1);
        }
        Due.is("37 all lie in the SUN", x.count(2), 8);
        Due.is("37 most WORDS", x.count(3), 792);
    }

    private static void promise38WhichIsMinus1To6() {
        // One BEYOND, one KIND, one MISSING have been told.
        int[] due = {3, 1, 0, 1, 0, 0, 1, 0};
        for (int which = -1; which <= 6; which++) {
            int of = which;
            Bounds.changesNothing("38 status(" + which + ")", Bounds::rich, x -> x.status(of), due[which + 1]);
        }
        Bounds.range("38 which", Bounds::rich, (x, v) -> x.status(v), -1, 3, 6, 0);
        Bounds.range("38 which of a new one", InkNights::new, (x, v) -> x.status(v), -1, 0, 6, 0);
    }

    private static void promise38AnotherOneIsCounted() {
        InkNights x = new InkNights();
        for (int which : new int[] {MIN, -2, 7, MAX}) {
            int before = x.status(0);
            Due.is("38 status(" + which + ")", x.status(which), Due.BEYOND);
            Due.is("38 counted from then on", x.status(0), before + 1);
            Due.is("38 counted in all", x.status(-1), before + 1);
        }
        for (int which = 1; which <= 6; which++) {
            Due.is("38 no other is counted", x.status(which), 0);
        }
    }

    private static void promise38EachFinding() {
        Bounds.Call[] calls = {x -> x.jar(4, 0), x -> x.scribe(0, 1), x -> x.as(0, 1), x -> x.shade(1), x -> x.over(0),
            x -> x.lays(0), x -> x.sheet(0, 8, -1)};
        for (int which = 0; which < calls.length; which++) {
            InkNights x = Bounds.full();
            x.set(7, 3, 0);
            x.jar(2, 0);
            x.sheet(0, 0, 0);
            Due.is("38 finding " + which, calls[which].on(x), -1000000001 - which);
            for (int of = 0; of <= 6; of++) {
                Due.is("38 finding " + which + ", then status(" + of + ")", x.status(of), of == which ? 1 : 0);
            }
            Due.is("38 finding " + which + ", then status(-1)", x.status(-1), 1);
        }
    }

    private static void promise38NoFindings() {
        InkNights x = new InkNights();
        x.text();
        Due.feed(x, "page 0");
        x.text();
        x.tear();
        x.wipe();
        x.sheet(0, 0, 40);
        x.sunny(1, 0);
        x.sheet(0, 64, 1);
        x.write(0, 0, Due.NONE);
        x.write(0, 0, Due.STATE);
        Due.is("38 a FAULT, a 0, a number like a finding", x.status(-1), 0);
    }

    private static void promise38ManyFindings() {
        InkNights x = new InkNights();
        x.image();
        for (int i = 0; i < 500; i++) {
            x.nights(0);
        }
        x.undo();
        Due.is("38 five hundred", x.status(0), 500);
        Due.is("38 five hundred in all", x.status(-1), 500);
    }
}
