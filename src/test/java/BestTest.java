/** Promises 18 to 24: what is best. */
public final class BestTest {
    public static void main(String[] args) {
        when();
        shade();
        enough();
        kind();
        lamp();
        longest();
        sunny();
        Due.end("BestTest");
    }

    private static void when() {
        InkNights x = new InkNights();
        Due.is("18 when(0, 1)", x.when(0, 1), 5);
        x.dark(3, 16);
        Due.is("18 of several the fewest", x.when(0, 1), 3);
        x.dark(3, 6);
        x.nights(6);
        // Places 6, 7, .. 5: 16 is the eleventh on.
        Due.is("18 when(0, 1) in night 6", x.when(0, 1), 11);
        x.jar(0, 1);
        x.jar(2, 0);
        x.jar(1, 0);
        x.dark(6, 20);
        // INK is 0 in this night, 2 in the next (13), and so on: 20 is now, but without INK.
        Due.is("18 with the INK there is then", x.when(0, 1), 11);
        x.jar(2, 1);
        Due.is("18 with INK now", x.when(0, 1), 0);
        x.jar(2, 0);
        // A DEED of 99 costs 7: buckets 20, 33, 38, 48, 63: INK is 7 in the fifth night on (place 11).
        x.dark(5, 0);
        x.dark(2, 0);
        x.dark(4, 0);
        Due.is("18 a DEED when there is INK", x.when(1, 99), 7);
        x.jar(0, 0);
        Due.is("18 without brothers", x.when(1, 99), Due.NONE);
        Due.is("18 when(6, 1)", x.when(6, 1), Due.BEYOND);
        Due.is("18 when(-1, 1)", x.when(-1, 1), Due.BEYOND);
        Due.is("18 when(0, 0)", x.when(0, 0), Due.BEYOND);
        Due.is("18 when(0, 100)", x.when(0, 100), Due.BEYOND);
        treatyIsCut();
    }

    private static void treatyIsCut() {
        InkNights x = Due.told("dark 3 14; dark 4 20; dark 5 20; page 1; page 1; page 1; page 1; page 1");
        Due.is("18 a TREATY", x.when(3, 1), 4);
        // VERSES of DARK 0 and 1 are BLACK 0 alike.
        for (int place = 0; place < 12; place++) {
            x.dark(place, place == 0 ? 0 : 1);
        }
        Due.is("18 a VERSE", x.when(5, 1), 0);
        Due.is("18 a LETTER", x.when(2, 1), 1);
        x.scribe(0, 1);
        x.scribe(0, 1);
        x.scribe(0, 1);
        Due.is("18 with 8 pages", x.when(0, 1), 1);
    }

    private static void shade() {
        InkNights x = Due.told("page 1 sun; deed 1 sun; page 1; treaty 1 sun; treaty 1 sun");
        x.set(0, 2, 60);
        x.set(1, 2, 52);
        x.set(2, 2, 99);
        x.set(3, 2, 40);
        x.set(4, 2, 40);
        // By 5: in one day a PAGE loses 33 - 28, a DEED 33 - 26, a TREATY 9.
        Due.is("19 shade(1)", x.shade(1), 3);
        x.jar(3, 4);
        // By 4: 26 - 22, 28 - 21, and TREATIES nothing.
        Due.is("19 shade(1) by 4", x.shade(1), 1);
        // In 60 days all of it: 26, 28.
        Due.is("19 shade(60) by 4", x.shade(60), 1);
        x.set(1, 3, 0);
        Due.is("19 shade(60) less 1", x.shade(60), 0);
        x.set(0, 3, 0);
        Due.is("19 of several the least", x.shade(60), 3);
        x.set(3, 3, 0);
        Due.is("19 the last that lies there", x.shade(60), 4);
        x.set(4, 3, 0);
        Due.is("19 none lies there", x.shade(60), Due.NONE);
        Due.is("19 shade(0)", x.shade(0), Due.BEYOND);
        Due.is("19 shade(61)", x.shade(61), Due.BEYOND);
        Due.is("19 shade(-1)", x.shade(-1), Due.BEYOND);
        x.set(4, 3, 1);
        x.shade(1);
        Due.is("19 of(4, 3)", x.of(4, 3), 1);
    }

    private static void enough() {
        InkNights x = new InkNights();
        // In 12 nights b brothers boil 118 b buckets: 13, 26, 39, 52, .. 118 thimbles.
        int[][] due = {{5, 0}, {0, 0}, {6, 1}, {18, 1}, {19, 2}, {31, 2}, {32, 3}, {44, 3}, {123, 9}, {124, Due.NONE}};
        for (int[] row : due) {
            Due.is("20 enough(12, " + row[0] + ")", x.enough(12, row[0]), row[1]);
        }
        x.jar(0, 0);
        Due.is("20 whoever is there", x.enough(12, 44), 3);
        x.jar(1, 6);
        Due.is("20 with buckets", x.enough(12, 45), 3);
        Due.is("20 with buckets", x.enough(12, 46), 4);
        Due.is("20 with buckets", x.enough(1, 6), 1);
        x.jar(2, 999);
        Due.is("20 enough(60, 999)", x.enough(60, 999), 0);
        Due.is("20 enough(0, 0)", x.enough(0, 0), Due.BEYOND);
        Due.is("20 enough(61, 0)", x.enough(61, 0), Due.BEYOND);
        Due.is("20 enough(1, -1)", x.enough(1, -1), Due.BEYOND);
        Due.is("20 enough(1, 1000)", x.enough(1, 1000), Due.BEYOND);
        Due.is("20 now(2)", x.now(2), 0);
    }

    private static void kind() {
        InkNights x = Due.told("verse 1 sun; page 1");
        x.set(0, 2, 90);
        // By 5: 50, 55, 50, 90, 110, 55.
        Due.is("21 kind(0, 0)", x.kind(0, 0), 4);
        x.set(0, 2, 8);
        // 4, 4, 4, 8, 8, 9.
        Due.is("21 kind(0, 0) of 8", x.kind(0, 0), 5);
        x.set(0, 2, 16);
        // 8, 8, 8, 16, 16, 13.
        Due.is("21 of several the least", x.kind(0, 0), 3);
        x.jar(3, 4);
        // 7, 7, 7, 0, 14, 11.
        Due.is("21 by 4", x.kind(0, 0), 4);
        x.set(0, 4, 1);
        // ON 3 nights: BLACK 0, 4, 0, 0, 4, 0.
        Due.is("21 as it fades then", x.kind(0, 3), 4);
        x.set(0, 2, 10);
        // BLACK 1, 6, 0, 1, 6, 0 ON 1 night: 0, 2, 0, 0, 5, 0 by 4.
        Due.is("21 as it fades then", x.kind(0, 1), 4);
        x.set(0, 4, 0);
        x.jar(3, 0);
        Due.is("21 by none", x.kind(0, 0), 0);
        x.set(0, 2, 0);
        x.jar(3, 9);
        Due.is("21 of a white one", x.kind(0, 60), 0);
        Due.is("21 kind(2, 0)", x.kind(2, 0), Due.BEYOND);
        Due.is("21 kind(-1, 0)", x.kind(-1, 0), Due.BEYOND);
        Due.is("21 kind(0, 61)", x.kind(0, 61), Due.BEYOND);
        Due.is("21 kind(0, -1)", x.kind(0, -1), Due.BEYOND);
        Due.is("21 of(0, 0)", x.of(0, 0), 5);
    }

    private static void lamp() {
        InkNights x = Due.told("page 1 sun; treaty 1; deed 1");
        x.set(0, 2, 90);
        x.set(1, 2, 30);
        x.set(2, 2, 54);
        // 10 l, 30 from 5 on, 6 l and 5.
        int[][] due = {{0, 0}, {5, 0}, {6, 1}, {21, 1}, {22, 2}, {69, 4}, {70, 5}, {115, 5}, {116, 6}, {179, 9},
            {180, Due.NONE}, {9999, Due.NONE}};
        for (int[] row : due) {
            Due.is("22 lamp(0, " + row[0] + ")", x.lamp(0, row[0]), row[1]);
        }
        // ON 10 nights the PAGE is white.
        Due.is("22 lamp(10, 89)", x.lamp(10, 89), 9);
        Due.is("22 lamp(60, 90)", x.lamp(60, 90), Due.NONE);
        Due.is("22 lamp(-1, 0)", x.lamp(-1, 0), Due.BEYOND);
        Due.is("22 lamp(61, 0)", x.lamp(61, 0), Due.BEYOND);
        Due.is("22 lamp(0, -1)", x.lamp(0, -1), Due.BEYOND);
        Due.is("22 lamp(0, 10000)", x.lamp(0, 10000), Due.BEYOND);
        Due.is("22 now(5)", x.now(5), 5);
    }

    private static void longest() {
        InkNights x = new InkNights();
        int[][] due = {
            {Due.NONE, 19, 39, 59, 79, 99, 99, 99}, {Due.NONE, Due.NONE, Due.NONE, 19, 39, 59, 79, 99},
            {Due.NONE, 59, 99, 99, 99, 99, 99, 99}, {Due.NONE, Due.NONE, 19, 19, 39, 39, 59, 59},
            {Due.NONE, Due.NONE, 19, 39, 59, 79, 99, 99}, {Due.NONE, Due.NONE, 59, 99, 99, 99, 99, 99}};
        for (int ink = 0; ink < 8; ink++) {
            x.jar(2, ink);
            for (int kind = 0; kind < 6; kind++) {
                Due.is("23 longest(" + kind + ") of " + ink, x.longest(kind), due[kind][ink]);
            }
        }
        x.jar(2, 8);
        Due.is("23 longest(6)", x.longest(6), Due.BEYOND);
        Due.is("23 longest(-1)", x.longest(-1), Due.BEYOND);
        for (int page = 0; page < 8; page++) {
            x.scribe(0, 1);
        }
        Due.is("23 FULL ahead of NONE", x.longest(0), Due.FULL);
        Due.is("23 BEYOND ahead of FULL", x.longest(6), Due.BEYOND);
    }

    private static void sunny() {
        InkNights x = Due.told("page 1; page 1 sun; treaty 1; treaty 1");
        x.set(0, 2, 90);
        x.set(1, 2, 90);
        x.set(2, 2, 50);
        x.set(3, 2, 50);
        // In one day the SUN takes 5, 5, 9, 9 of 50, 50, 50, 50.
        int[][] due = {{0, 15}, {172, 15}, {173, 7}, {181, 7}, {182, 3}, {190, 3}, {191, 1}, {195, 1}, {196, 0},
            {200, 0}, {201, Due.NONE}, {9999, Due.NONE}};
        for (int[] row : due) {
            Due.is("24 sunny(1, " + row[0] + ")", x.sunny(1, row[0]), row[1]);
        }
        // In 20 days the SUN takes all; two of four stay.
        Due.is("24 sunny(20, 100)", x.sunny(20, 100), 3);
        Due.is("24 sunny(20, 101)", x.sunny(20, 101), 1);
        x.set(0, 2, 99);
        // The first has 55: with 51 it is left out, the next one taken.
        Due.is("24 sunny(20, 151)", x.sunny(20, 151), 2);
        Due.is("24 of(1, 3)", x.of(1, 3), 1);
        Due.is("24 of(0, 3)", x.of(0, 3), 0);
        Due.is("24 sunny(0, 0)", x.sunny(0, 0), Due.BEYOND);
        Due.is("24 sunny(21, 0)", x.sunny(21, 0), Due.BEYOND);
        Due.is("24 sunny(1, -1)", x.sunny(1, -1), Due.BEYOND);
        Due.is("24 sunny(1, 10000)", x.sunny(1, 10000), Due.BEYOND);
        Due.is("24 with no pages", new InkNights().sunny(1, 0), 0);
        Due.is("24 with no pages", new InkNights().sunny(1, 1), Due.NONE);
    }
}
