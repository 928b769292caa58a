/** The bounds that promises 25 to 27 and the terms behind them name: THE TAPE and its TEXT. */
public final class BoundsTextTest {
    private static final int MIN = Bounds.MIN;
    private static final int MAX = Bounds.MAX;

    public static void main(String[] args) {
        promise25BytesAre1To4();
        promise25AnyNumber();
        promise25FullAt120();
        promise25FindingsInOrder();
        promise26EmptyAndFull();
        promise27EmptyAndFull();
        promise27TokensAreAsLongAsCanBe();
        promise27Blanks();
        promise27BytesThatBeginNoToken();
        promise27NumbersTo999();
        promise27Words1To99();
        promise27InkEnough();
        promise27Sun();
        promise27Ink0To999();
        promise27Dark();
        promise27Brothers0To9();
        promise27Lamp0To9();
        promise27Names();
        promise27Signs();
        promise27EndsTooEarly();
        promise27Ninth();
        promise27FaultChangesNothing();
        promise27FirstFault();
        promise27MostItems();
        Due.end("BoundsTextTest");
    }

    private static InkNights taped(int length) {
        InkNights x = Bounds.rich();
        x.wipe();
        for (int i = 0; i < length / 4; i++) {
            x.feed(0x20202020, 4);
        }
        if (length % 4 > 0) {
            x.feed(0x202020, length % 4);
        }
        return x;
    }

    private static void promise25BytesAre1To4() {
        Bounds.range("25 n", Bounds::rich, (x, v) -> x.feed(0x3b3b3b3b, v), 1, 16, 4, 19);
        Bounds.range("25 n of an empty one", InkNights::new, (x, v) -> x.feed(0x3b3b3b3b, v), 1, 1, 4, 4);
    }

    /** What text() answers of the n lowest bytes of a number, and the INK then. */
    private static void fed(int bytes, int n, String behind, int dueText, int dueInk) {
        InkNights x = new InkNights();
        Due.is("25 feed(" + bytes + ", " + n + ")", x.feed(bytes, n), n);
        Due.feed(x, behind);
        Due.is("25 text of " + bytes + ", " + n + " and '" + behind + "'", x.text(), dueText);
        Due.is("25 INK of " + bytes + ", " + n + " and '" + behind + "'", x.now(4), dueInk);
    }

    private static void promise25AnyNumber() {
        fed(MIN, 4, "", -1, 5);
        fed(MAX, 4, "", -1, 5);
        fed(0, 4, "", -1, 5);
        fed(-1, 1, "", -1, 5);
        // "ink8", its lowest three "nk8", and with other bytes above the lowest one, two, three.
        fed(0x696e6b38, 4, "", 1, 8);
        fed(0x696e6b38, 3, "", -1, 5);
        fed(0xff696e6b, 3, "7", 1, 7);
        fed(0x80000069, 1, "nk6", 1, 6);
        fed(0x7fff696e, 2, "k9", 1, 9);
        // The highest byte is above 127, so the number is below 0; the second TOKEN can't be.
        fed(0xe96e6b38, 4, "", -1, 5);
        fed(0x696e6bff, 4, "", -4, 5);
    }

    private static void promise25FullAt120() {
        for (int n = 1; n <= 4; n++) {
            int bytes = n;
            Bounds.taken("25 to 120, " + n, () -> taped(120 - bytes), x -> x.feed(0, bytes), 120);
            Bounds.refused("25 to 121, " + n, () -> taped(121 - bytes), x -> x.feed(0, bytes), Due.FULL);
            Bounds.refused("25 of 120, " + n, Bounds::full, x -> x.feed(0, bytes), Due.FULL);
        }
    }

    private static void promise25FindingsInOrder() {
        for (int n : new int[] {MIN, -1, 0, 5, MAX}) {
            Bounds.refused("25 BEYOND ahead of FULL, " + n, Bounds::full, x -> x.feed(32, n), Due.BEYOND);
        }
        InkNights x = Bounds.full();
        x.wipe();
        Due.is("25 after wipe()", x.feed(32, 4), 4);
        InkNights y = Bounds.full();
        y.text();
        Due.is("25 after text()", y.feed(32, 4), 4);
    }

    private static void promise26EmptyAndFull() {
        Bounds.changesNothing("26 an empty one", InkNights::new, x -> x.wipe(), 0);
        Bounds.taken("26 of 120", Bounds::full, x -> x.wipe(), 120);
        InkNights x = Bounds.rich();
        Due.is("26 of 15", x.wipe(), 15);
        Due.is("26 then count(1)", x.count(1), 0);
        Due.is("26 then text()", x.text(), -1);
        Due.is("26 LAMP isn't told", x.now(5), 6);
        Due.is("26 again", x.wipe(), 0);
    }

    private static void promise27EmptyAndFull() {
        Bounds.changesNothing("27 an empty one", InkNights::new, x -> x.text(), -1);
        InkNights x = Bounds.full();
        Due.is("27 of 120", x.text(), 7);
        int[] now = {0, 20, 0, 0, 77, 3};
        for (int what = 0; what < now.length; what++) {
            Due.is("27 of 120, then now(" + what + ")", x.now(what), now[what]);
        }
        Due.is("27 of 120, then count(1)", x.count(1), 0);
        Due.is("27 of 120, then again", x.text(), -1);
        told(" ".repeat(114) + "lamp 0", 1);
        told(" ".repeat(115) + "lamp0", 1);
        fault(" ".repeat(115) + "lampx", 115);
        fault(" ".repeat(116) + "lamp", 120);
        fault(" ".repeat(119) + ";", 119);
        fault(" ".repeat(120), 120);
        fault("a".repeat(120), 0);
        fault("9".repeat(120), 0);
        fault("lamp " + "9".repeat(115), 5);
        told("lamp " + "0".repeat(114) + "9", 1);
    }

    private static InkNights holding(String text) {
        InkNights x = Bounds.rich();
        x.wipe();
        Due.feed(x, text);
        return x;
    }

    /** The text stands: so many ITEMS, THE TAPE is empty then, and no finding is told. */
    private static InkNights told(String text, int items) {
        InkNights x = holding(text);
        int before = x.status(-1);
        Due.is("27 '" + text + "'", x.text(), items);
        Due.is("27 '" + text + "', then count(1)", x.count(1), 0);
        Due.is("27 '" + text + "', then status(-1)", x.status(-1), before);
        return x;
    }

    /** The text has its FAULT there: nothing changes but that THE TAPE is empty, and it is no finding. */
    private static void fault(String text, int place) {
        InkNights x = holding(text);
        InkNights twin = holding(text);
        twin.wipe();
        Due.is("27 '" + text + "'", x.text(), -1 - place);
        Due.is("27 '" + text + "', then status(-1)", x.status(-1), twin.status(-1));
        Due.holds("27 '" + text + "' changes nothing", Bounds.seen(x).equals(Bounds.seen(twin)));
    }

    private static void promise27TokensAreAsLongAsCanBe() {
        told("ink7", 1);
        told("dark3 4", 1);
        told("page7sun", 1);
        told("page7sun;ink7", 2);
        told("ink7;ink7;ink7", 3);
        fault("dark34", 4);
        fault("dark 3 4sun", 8);
        fault("inkink 7", 0);
        fault("pag e 7", 0);
        fault("page 7suns", 6);
        fault("page 7su n", 6);
        fault("7ink", 0);
        fault("ink 7 7", 6);
        fault("ink 1 0", 6);
    }

    private static void promise27Blanks() {
        told("   ink   7   ;   lamp   7   ", 2);
        told(" page 7 sun ", 1);
        fault("ink\t7", 3);
        fault("ink\n7", 3);
        fault("ink\r7", 3);
        fault("ink\u00a07", 3);
        fault("ink\u00007", 3);
        fault("ink 7\u0000", 5);
        fault("ink\u001f7", 3);
        fault("ink!7", 3);
    }

    // The signs just ahead of and behind a to z, 0 to 9 and ';', capitals, and the bytes above 127.
    private static void promise27BytesThatBeginNoToken() {
        for (char c : "`{/:<@AZ[#-+.,\u007f\u0080\u00e9\u00ff\u0001".toCharArray()) {
            fault(c + "ink 7", 0);
            fault("ink" + c + "7", 3);
            fault("ink 7" + c, 5);
            fault("ink 7;" + c, 6);
            fault("page 7 " + c + "sun", 7);
        }
        fault("ink A7", 4);
        fault("INK 7", 0);
        fault("inK 7", 0);
        told("ink 0", 1);
        told("ink 9", 1);
    }

    private static void promise27NumbersTo999() {
        Due.is("27 ink 999", told("ink 999", 1).now(4), 999);
        Due.is("27 ink 0999", told("ink 0999", 1).now(4), 999);
        fault("ink 1000", 4);
        fault("ink 9990", 4);
        fault("ink 10000000000", 4);
        // They would be 7 if they wrapped around at 32 or 64 bits.
        fault("ink 4294967303", 4);
        fault("ink 18446744073709551623", 4);
        fault("ink 2147483648", 4);
        fault("ink 2147483647", 4);
        fault("page 4294967303", 5);
        fault("dark 4294967296 1", 5);
        fault("dark 1 4294967296", 7);
    }

    private static void promise27Words1To99() {
        String[] names = {"page", "deed", "letter", "treaty", "will", "verse"};
        for (int kind = 0; kind < names.length; kind++) {
            String name = names[kind];
            fault(name + " 0", name.length() + 1);
            fault(name + " 00", name.length() + 1);
            fault(name + " 100", name.length() + 1);
            fault(name + " 999", name.length() + 1);
            fault(name + " 1000", name.length() + 1);
            for (int words : new int[] {1, 99}) {
                InkNights x = told(name + " " + words, 1);
                Due.is("27 " + name + " " + words + ", then of(5, 0)", x.of(5, 0), kind);
                Due.is("27 " + name + " " + words + ", then of(5, 1)", x.of(5, 1), words);
                Due.is("27 " + name + " " + words + ", then count(0)", x.count(0), 6);
            }
        }
    }

    private static void promise27InkEnough() {
        String[] names = {"page", "deed", "letter", "treaty", "will", "verse"};
        int[] costs = {4, 6, 2, 8, 5, 3};
        for (int kind = 0; kind < names.length; kind++) {
            String less = "ink " + (costs[kind] - 1) + ";" + names[kind] + " ";
            fault(less + "60", less.length());
            fault(less + "60 sun", less.length());
            fault(less + "60;ink 99", less.length());
            String none = "ink 0;" + names[kind] + " ";
            fault(none + "1", none.length());
            InkNights x = told("ink " + costs[kind] + ";" + names[kind] + " 60", 2);
            Due.is("27 INK just enough, KIND " + kind, x.now(4), 0);
        }
        // INK that an earlier ITEM has taken is gone, and INK that one has told is there.
        fault("ink 2;page 1;page 1;page 1", 25);
        told("ink 3;page 1;page 1;page 1", 4);
        told("ink 1;page 1;ink 1;page 1", 4);
        Due.is("27 INK of the last", told("ink 0;ink 5;page 1", 3).now(4), 4);
    }

    private static void promise27Sun() {
        Due.is("27 without sun", told("page 7", 1).of(5, 3), 0);
        Due.is("27 with sun", told("page 7 sun", 1).of(5, 3), 1);
        InkNights x = told("page 7;page 8 sun;page 9", 3);
        Due.is("27 sun of the second alone", x.of(5, 3), 0);
        Due.is("27 sun of the second alone", x.of(6, 3), 1);
        Due.is("27 sun of the second alone", x.of(7, 3), 0);
        fault("page 7 zun", 7);
        fault("page 7 sux", 7);
        fault("page 7 sunz", 7);
        fault("page 7 sun sun", 11);
        fault("page 7 sun 7", 11);
        fault("page sun 7", 5);
        fault("sun", 0);
        fault("sun page 7", 0);
        fault("ink 7 sun", 6);
        fault("lamp 7 sun", 7);
        fault("brothers 7 sun", 11);
        fault("dark 7 7 sun", 9);
    }

    private static void promise27Ink0To999() {
        Due.is("27 ink 0", told("ink 0", 1).now(4), 0);
        Due.is("27 ink 999", told("ink 999", 1).now(4), 999);
        fault("ink 1000", 4);
        fault("ink", 3);
    }

    private static void promise27Dark() {
        Due.is("27 dark 0 0", told("dark 0 0", 1).dark(0, 1), 0);
        Due.is("27 dark 0 20", told("dark 0 20", 1).dark(0, 1), 20);
        Due.is("27 dark 11 0", told("dark 11 0", 1).dark(11, 1), 0);
        Due.is("27 dark 11 20", told("dark 11 20", 1).dark(11, 1), 20);
        fault("dark 12 0", 5);
        fault("dark 11 21", 8);
        fault("dark 12 21", 5);
        fault("dark 999 0", 5);
        fault("dark 0 999", 7);
        fault("dark 0 1000", 7);
        fault("dark", 4);
        fault("dark 0", 6);
        fault("dark 0;", 6);
        fault("dark 0 sun", 7);
        fault("dark ;", 5);
        fault("dark 0 0 0", 9);
        // DARK told earlier counts for a PAGE that is WRITTEN later, and not the other way round.
        Due.is("27 DARK of its NIGHT ahead", told("dark 1 20;page 1", 2).of(5, 2), 80);
        Due.is("27 DARK of its NIGHT behind", told("page 1;dark 1 20", 2).of(5, 2), 36);
    }

    private static void promise27Brothers0To9() {
        Due.is("27 brothers 0", told("brothers 0", 1).now(2), 0);
        Due.is("27 brothers 9", told("brothers 9", 1).now(2), 9);
        fault("brothers 10", 9);
        fault("brothers 999", 9);
        fault("brothers", 8);
        fault("brother 9", 0);
    }

    private static void promise27Lamp0To9() {
        Due.is("27 lamp 0", told("lamp 0", 1).now(5), 0);
        Due.is("27 lamp 9", told("lamp 9", 1).now(5), 9);
        fault("lamp 10", 5);
        fault("lamp 999", 5);
        fault("lamp", 4);
        fault("lamps 9", 0);
    }

    // A name without its first or last letter, with one more, or with one other, is another WORD.
    private static void promise27Names() {
        for (String name : "page deed letter treaty will verse ink dark brothers lamp".split(" ")) {
            for (int i = 0; i < name.length(); i++) {
                fault(name.substring(0, i) + "z" + name.substring(i + 1) + " 1", 0);
            }
            fault(name + "z 1", 0);
            fault("z" + name + " 1", 0);
            fault(name.substring(1) + " 1", 0);
            fault(name.substring(0, name.length() - 1) + " 1", 0);
            fault(name + "a 1", 0);
            fault("a" + name + " 1", 0);
            fault(name.toUpperCase() + " 1", 0);
            fault(name, name.length());
            fault(name + " " + name, name.length() + 1);
            fault(name + ";", name.length());
            told(name + " 1" + (name.equals("dark") ? " 1" : ""), 1);
        }
        fault("buckets 1", 0);
        fault("night 1", 0);
        fault("read 1", 0);
        fault("black 1", 0);
        fault("words 1", 0);
    }

    private static void promise27Signs() {
        fault(";", 0);
        fault("; ink 7", 0);
        fault("ink 7;", 6);
        fault("ink 7; ", 7);
        fault("ink 7;;ink 7", 6);
        fault("ink 7 ; ; ink 7", 8);
        fault("ink;7", 3);
        fault("page 7;sun", 7);
        fault("ink 7 ink 7", 6);
        fault("page 7 page 7", 7);
        fault("page 7 sun page 7", 11);
    }

    private static void promise27EndsTooEarly() {
        fault("", 0);
        fault(" ", 1);
        fault("page", 4);
        fault("page ", 5);
        fault("ink 7;page", 10);
        fault("ink 7;", 6);
        fault("ink 7;   ", 9);
        fault("dark 1   ", 9);
    }

    private static InkNights fullHolding(String text) {
        InkNights x = Bounds.full();
        x.wipe();
        Due.feed(x, text);
        return x;
    }

    private static void ninth(String text, int place) {
        InkNights x = fullHolding(text);
        InkNights twin = fullHolding("");
        Due.is("27 with eight '" + text + "'", x.text(), -1 - place);
        Due.holds("27 with eight '" + text + "' changes nothing", Bounds.seen(x).equals(Bounds.seen(twin)));
    }

    private static void promise27Ninth() {
        for (String name : "page deed letter treaty will verse".split(" ")) {
            ninth(name + " 1", 0);
            ninth(name + " 100", 0);
            ninth(name, 0);
            ninth("  " + name + " 1", 2);
            ninth("lamp 1;" + name + " 1", 7);
            ninth("ink 0;" + name + " 99", 6);
        }
        Bounds.taken("27 with eight, no page", () -> fullHolding("lamp 1;ink 3;dark 1 1;brothers 1"), x -> x.text(), 4);
        told("page 1;page 1;page 1", 3);
        fault("page 1;page 1;page 1;page 1", 21);
        fault("page 1;page 1;page 1;page 0", 21);
        fault("page 1;page 1;page 1;pages 1", 21);
        InkNights x = new InkNights();
        Due.feed(x, "ink 8" + ";page 1".repeat(8));
        Due.is("27 eight in one text", x.text(), 9);
        Due.is("27 eight in one text, then count(0)", x.count(0), 8);
    }

    private static void promise27FaultChangesNothing() {
        fault("ink 9;lamp 9;brothers 9;dark 0 9;page 9 sun;verse 9;page 0", 57);
        fault("lamp 0;lamp 10", 12);
        InkNights x = holding("lamp 0;page 1;lamp 10");
        x.text();
        Due.feed(x, "page 1");
        Due.is("27 a text after a fault", x.text(), 1);
        Due.is("27 the page after a fault", x.count(0), 6);
    }

    private static void promise27FirstFault() {
        fault("lamp 10;lamp 10", 5);
        fault("lamp 9;#;lamp 10", 7);
        fault("lamp 10 #", 5);
        fault("page 100 moon", 5);
        fault("moon 100", 0);
        fault("ink 0;page 1 moon", 11);
        fault("ink 0;page 100", 11);
    }

    private static void promise27MostItems() {
        told("ink1" + ";ink1".repeat(23), 24);
        InkNights x = told("ink 1;ink 2;ink 3", 3);
        Due.is("27 the last holds", x.now(4), 3);
    }
}
