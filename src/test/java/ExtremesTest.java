import java.lang.reflect.InvocationTargetException;
import java.lang.reflect.Method;
import java.util.ArrayList;
import java.util.Arrays;
import java.util.Comparator;
import java.util.List;

/**
 * Every call of the face, from several states, with every row of arguments that lie at a bound or at an end of what
 * an int or a long can be: none throws, and each answers as the model does. No object gets more than 512 calls.
 */
public final class ExtremesTest {
    private static final int MIN = Integer.MIN_VALUE;
    private static final int MAX = Integer.MAX_VALUE;
    private static final int CALLS = 200;
    private static final int[] MANY = {MIN, MIN + 1, -2, -1, 0, 1, 2, 3, 4, 5, 6, 7, 8, 9, 10, 11, 12, 16, 20, 21, 40, 41,
        60, 61, 64, 99, 100, 101, 200, 201, 240, 999, 1000, 9999, 10000, MAX - 1, MAX};
    private static final int[] SOME = {MIN, -1, 0, 1, 2, 3, 4, 5, 7, 8, 9, 16, 40, 41, 64, 99, 100, 200, 201, 9999, 10000,
        MAX};
    private static final int[] FEW = {MIN, -1, 0, 1, 3, 4, 40, 41, MAX};
    private static final long[] LONGS = {Long.MIN_VALUE, -32769, -129, -1, 0, 50, 99, 100, 127, 128, 255, 256, 32768,
        65536, 1L << 32, (1L << 32) + 50, Long.MAX_VALUE};

    private static final String RICH = "jar 2 100,scribe 0 30,scribe 1 45,scribe 4 60,scribe 5 99,scribe 3 20,image,"
        + "nights 13,set 0 2 90,set 0 3 1,set 2 2 51,set 2 3 1,set 2 4 2,set 3 2 40,set 3 4 6,jar 2 50,jar 3 6,"
        + "sheet 0 8 3,write 0 1 77,sheet 1 8 40,book 1 0,sheet 2 64 0,feed 1768844088 4";
    private static final String FULL = "jar 2 500,scribe 0 1,scribe 1 20,scribe 2 40,scribe 3 60,scribe 4 80,scribe 5 99,"
        + "scribe 2 1,scribe 5 1,set 0 3 1,set 7 3 1,set 7 4 9999,set 1 2 51,sheet 0 16 40,sheet 1 16 40,sheet 2 64 40,"
        + "sheet 3 64 40" + ",feed 538976288 4".repeat(30);
    private static final String LAST = "scribe 0 1,scribe 4 1,set 0 3 1" + ",nights 100".repeat(99) + ",nights 99,image";
    private static final String SPENT = "scribe 2 1,scribe 5 60,set 1 4 3,jar 0 0,jar 1 8,jar 2 0,jar 3 0,image";
    private static final String[] STATES = {"", RICH, FULL, LAST, SPENT};

    private InkNights x;
    private Model m;
    private int calls;

    public static void main(String[] args) {
        Method[] face = InkNights.class.getDeclaredMethods();
        Arrays.sort(face, Comparator.comparing(Method::getName));
        for (Method call : face) {
            boolean isFace = java.lang.reflect.Modifier.isPublic(call.getModifiers());
            for (int state = 0; state < STATES.length && isFace && !Due.anyWrong(); state++) {
                new ExtremesTest().callWithAll(call, STATES[state]);
            }
        }
        Due.end("ExtremesTest");
    }

    private void callWithAll(Method call, String state) {
        begin(state);
        Class<?>[] types = call.getParameterTypes();
        int[] ints = types.length < 3 ? MANY : types.length == 3 ? SOME : FEW;
        int[] at = new int[types.length];
        do {
            if (calls == CALLS) {
                compare();
                begin(state);
            }
            Object[] row = new Object[types.length];
            for (int i = 0; i < row.length; i++) {
                row[i] = types[i] == long.class ? (Object) LONGS[at[i]] : (Object) ints[at[i]];
            }
            both(call.getName(), types, row);
            calls++;
        } while (next(at, types, ints.length) && !Due.anyWrong());
        compare();
    }

    private static boolean next(int[] at, Class<?>[] types, int ints) {
        for (int i = 0; i < at.length; i++) {
            at[i]++;
            if (at[i] < (types[i] == long.class ? LONGS.length : ints)) {
                return true;
            }
            at[i] = 0;
        }
        return false;
    }

    private void begin(String state) {
        x = new InkNights();
        m = new Model();
        calls = 0;
        for (String told : state.split(",")) {
            String[] words = told.split(" ");
            if (words[0].isEmpty()) {
                continue;
            }
            Class<?>[] types = new Class<?>[words.length - 1];
            Object[] row = new Object[words.length - 1];
            for (int i = 0; i < row.length; i++) {
                boolean isLong = words[0].equals("write") && i == 2;
                types[i] = isLong ? long.class : int.class;
                row[i] = isLong ? (Object) Long.valueOf(words[i + 1]) : (Object) Integer.valueOf(words[i + 1]);
            }
            both(words[0], types, row);
        }
    }

    private void both(String name, Class<?>[] types, Object[] row) {
        Due.is(name + Arrays.toString(row), answer(x, name, types, row), answer(m, name, types, row));
    }

    private static long answer(Object of, String name, Class<?>[] types, Object[] row) {
        try {
            Method method = of.getClass().getDeclaredMethod(name, types);
            method.setAccessible(true);
            return ((Number) method.invoke(of, row)).longValue();
        } catch (InvocationTargetException e) {
            Due.holds(name + Arrays.toString(row) + " threw " + e.getCause(), false);
            return 0;
        } catch (ReflectiveOperationException e) {
            Due.holds(name + Arrays.toString(row) + " can't be called: " + e, false);
            return 0;
        }
    }

    /** All that can be seen: status first, for looking at the rest tells findings of its own. */
    private void compare() {
        List<Long> got = new ArrayList<>();
        List<Long> due = new ArrayList<>();
        for (int which = -1; which <= 6; which++) {
            got.add((long) x.status(which));
            due.add((long) m.status(which));
        }
        for (int what = 0; what < 4; what++) {
            got.add((long) x.count(what));
            due.add((long) m.count(what));
        }
        for (int what = 0; what < 8; what++) {
            got.add((long) x.now(what));
            due.add((long) m.now(what));
        }
        for (int place = 0; place < 12; place++) {
            got.add((long) x.dark(place, 0));
            due.add((long) m.dark(place, 0));
        }
        for (int page = 0; page < 8; page++) {
            for (int what = 0; what < 5; what++) {
                got.add((long) x.of(page, what));
                due.add((long) m.of(page, what));
            }
        }
        for (int s = 0; s < 4; s++) {
            for (int i = 0; i < 41; i += i < 4 || i > 38 ? 1 : 5) {
                got.add(x.write(s, i, 0));
                due.add(m.write(s, i, 0));
            }
        }
        got.add((long) x.undo());
        due.add((long) m.undo());
        got.add((long) x.now(7));
        due.add((long) m.now(7));
        Due.holds("all is as in the model: " + got + ", due is " + due, got.equals(due));
    }
}
