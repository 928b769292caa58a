/** What the tests share: each answer is held against the one that is due. */
final class Due {
    static final int BEYOND = -1000000001;
    static final int FULL = -1000000002;
    static final int KIND = -1000000003;
    static final int NONE = -1000000004;
    static final int STATE = -1000000005;
    static final int MISSING = -1000000006;
    static final int SIZE = -1000000007;

    private static int asked = 0;
    private static int wrong = 0;

    private Due() {
    }

    static void is(String call, long got, long want) {
        asked++;
        if (got != want) {
            wrong++;
            System.out.println(call + " answered " + got + ", due is " + want);
        }
    }

    static void holds(String what, boolean so) {
        asked++;
        if (!so) {
            wrong++;
            System.out.println("does not hold: " + what);
        }
    }

    static boolean anyWrong() {
        return wrong > 0;
    }

    /** Feeds a text to THE TAPE, four bytes a call. */
    static void feed(InkNights x, String text) {
        for (int i = 0; i < text.length(); i += 4) {
            String part = text.substring(i, Math.min(text.length(), i + 4));
            int bytes = 0;
            for (char c : part.toCharArray()) {
                bytes = bytes << 8 | c & 255;
            }
            x.feed(bytes, part.length());
        }
    }

    /** A scriptorium with much INK, as a text tells it. */
    static InkNights told(String text) {
        InkNights x = new InkNights();
        x.jar(2, 999);
        feed(x, text);
        holds("told: " + text, x.text() > 0);
        return x;
    }

    static void end(String name) {
        System.out.println(name + ": " + asked + " asked, " + wrong + " wrong");
        if (wrong > 0) {
            System.exit(1);
        }
    }
}
