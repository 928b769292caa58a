/** Promises 34 to 38: images, count and status. */
public final class ImagesTest {
    public static void main(String[] args) {
        imageAndUndo();
        whatIsNotKept();
        tear();
        count();
        status();
        Due.end("ImagesTest");
    }

    private static void imageAndUndo() {
        InkNights x = Due.told("page 9 sun;verse 30");
        x.nights(2);
        x.set(1, 4, 6);
        int[] before = seen(x);
        Due.is("34 image()", x.image(), 1);
        for (int round = 0; round < 2; round++) {
            changeAll(x);
            Due.is("35 undo()", x.undo(), 2);
            same("35 undo", seen(x), before);
        }
        changeAll(x);
        int[] after = seen(x);
        Due.is("34 image() again", x.image(), 1);
        x.nights(5);
        Due.is("35 the latest", x.undo(), 8);
        same("35 the latest", seen(x), after);
    }

    private static void changeAll(InkNights x) {
        x.nights(3);
        x.jar(0, 1);
        x.jar(1, 2);
        x.jar(2, 40);
        x.jar(3, 9);
        for (int place = 0; place < 12; place++) {
            x.dark(place, place);
        }
        for (int what = 1; what <= 4; what++) {
            x.set(1, what, 1);
        }
        x.set(0, 3, 0);
        x.turn(0, 4);
        for (int page = 0; page < 6; page++) {
            x.scribe(3, 1);
        }
    }

    private static int[] seen(InkNights x) {
        int[] seen = new int[150];
        int at = 0;
        seen[at++] = x.count(0);
        for (int what = 0; what < 8; what++) {
            seen[at++] = x.now(what);
        }
        for (int place = 0; place < 12; place++) {
            seen[at] = x.dark(place, 0);
            x.dark(place, seen[at++]);
        }
        int pages = x.count(0);
        for (int page = 0; page < pages; page++) {
            for (int what = 0; what < 9; what++) {
                seen[at++] = x.of(page, what);
            }
        }
        return seen;
    }

    private static void same(String what, int[] got, int[] due) {
        for (int i = 0; i < due.length; i++) {
            Due.is(what + " " + i, got[i], due[i]);
        }
    }

    private static void whatIsNotKept() {
        InkNights x = new InkNights();
        x.sheet(0, 8, 1);
        Due.feed(x, "ink");
        x.image();
        x.write(0, 0, 7);
        x.sheet(1, 16, 2);
        Due.feed(x, " 77");
        x.now(9);
        Due.is("35 undo()", x.undo(), 0);
        Due.is("35 the sheet stays", x.write(0, 0, 7), 7);
        Due.is("35 the other stays", x.write(1, 1, 7), 0);
        Due.is("35 the tape stays", x.count(1), 6);
        Due.is("35 the text", x.text(), 1);
        Due.is("35 its ink", x.now(4), 77);
        Due.is("35 status stays", x.status(-1), 1);
    }

    private static void tear() {
        InkNights x = new InkNights();
        Due.is("36 tear() of none", x.tear(), 0);
        x.image();
        x.image();
        x.jar(2, 9);
        Due.is("36 tear()", x.tear(), 1);
        Due.is("36 tear() again", x.tear(), 0);
        Due.is("36 undo()", x.undo(), Due.NONE);
        Due.is("36 now(4)", x.now(4), 9);
        x.image();
        Due.is("36 undo() of a new one", x.undo(), 0);
        Due.is("36 status(3)", x.status(3), 1);
    }

    private static void count() {
        InkNights x = Due.told("page 9 sun;verse 30;will 99 sun");
        Due.feed(x, "lamp7");
        int[] due = {3, 5, 2, 138};
        for (int what = 0; what < 4; what++) {
            Due.is("37 count(" + what + ")", x.count(what), due[what]);
        }
        x.set(1, 3, 1);
        x.set(1, 1, 1);
        Due.is("37 count(2)", x.count(2), 3);
        Due.is("37 count(3)", x.count(3), 109);
        InkNights y = Due.told("page 9;page 9 sun;page 9;page 9;page 9;page 9;page 9;page 9 sun");
        Due.is("37 count(2) of eight", y.count(2), 2);
        Due.is("37 count(3) of eight", y.count(3), 72);
        Due.is("37 count(4)", x.count(4), Due.BEYOND);
        Due.is("37 count(-1)", x.count(-1), Due.BEYOND);
        Due.is("37 status(0)", x.status(0), 2);
    }

    private static void status() {
        InkNights x = new InkNights();
        x.jar(9, 0);
        x.feed(0, 9);
        x.as(0, 0);
        for (int i = 0; i < 30; i++) {
            x.feed(0x20202020, 4);
        }
        x.feed(0, 1);
        x.feed(0, 4);
        x.scribe(0, 1);
        x.as(0, 1);
        x.undo();
        x.white(0);
        x.shade(1);
        x.comes(999);
        x.jar(2, 0);
        x.scribe(0, 1);
        x.over(0);
        x.lays(1);
        x.sheet(0, 8, -1);
        x.sheet(0, 0, -1);
        x.text();
        int[] due = {3, 2, 1, 4, 2, 1, 2};
        int all = 15;
        for (int which = 0; which < 7; which++) {
            Due.is("38 status(" + which + ")", x.status(which), due[which]);
        }
        Due.is("38 status(-1)", x.status(-1), all);
        x.image();
        Due.is("38 status(7)", x.status(7), Due.BEYOND);
        Due.is("38 status(-2)", x.status(-2), Due.BEYOND);
        x.undo();
        Due.is("38 counted from then on", x.status(0), 5);
        Due.is("38 all", x.status(-1), all + 2);
        Due.is("38 another object", new InkNights().status(-1), 0);
    }
}
