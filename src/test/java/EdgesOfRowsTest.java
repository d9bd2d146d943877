/** The edges of promises 32 to 36: the ROWS of the DAYS. */
public final class EdgesOfRowsTest extends Edges {
    private static final int[] NO_ROW_DAYS = {LEAST_INT, -1, 200, 14600, GREATEST_INT};
    private static final long[] GREATEST = {Byte.MAX_VALUE, Short.MAX_VALUE, Integer.MAX_VALUE, Long.MAX_VALUE};

    /** DAY 0 has 1 to 6 in shorts, DAY 1 four shorts, DAY 2 six ints, DAY 199 none of longs. */
    private static void some(BirdBook x) {
        x.watch(0, 1, 6);
        x.watch(1, 1, 4);
        x.watch(2, 2, 6);
        x.watch(199, 3, 0);
        for (int i = 0; i < 6; i++) {
            x.tally(0, i, i + 1);
        }
    }

    private static void watching() {
        Setup setup = EdgesOfRowsTest::some;
        says("-2: there is no such DAY (0 to 199 alone), or WIDTH, or n is above 100");
        for (int day : NO_ROW_DAYS) {
            refused(setup, "watch(" + day + ", 0, 1)", x -> x.watch(day, 0, 1), -2);
        }
        for (int width : new int[] {LEAST_INT, -1, 4, GREATEST_INT}) {
            refused(setup, "watch(0, " + width + ", 1)", x -> x.watch(0, width, 1), -2);
            refused(setup, "watch(5, " + width + ", 0)", x -> x.watch(5, width, 0), -2);
        }
        for (int n : new int[] {101, 1000, GREATEST_INT}) {
            refused(setup, "watch(0, 1, " + n + ")", x -> x.watch(0, 1, n), -2);
        }
        says("-3: n is below 0.");
        for (int n : new int[] {-1, -100, LEAST_INT}) {
            refused(setup, "watch(0, 1, " + n + ")", x -> x.watch(0, 1, n), -3);
            refused(setup, "-2 comes first: DAY 200", x -> x.watch(200, 1, n), -2);
            refused(setup, "-2 comes first: DAY -1", x -> x.watch(-1, 1, n), -2);
            refused(setup, "-2 comes first: WIDTH 4", x -> x.watch(0, 4, n), -2);
            refused(setup, "-2 comes first: WIDTH -1", x -> x.watch(0, -1, n), -2);
        }
        says("A DAY has a ROW of n numbers of that WIDTH, all 0, from now on (in place of another one): 0.");
        for (int width = 0; width < 4; width++) {
            for (int day : new int[] {0, 5, 199}) {
                for (int n : new int[] {0, 1, 99, 100}) {
                    watched(made(setup), day, width, n);
                }
            }
        }
        BirdBook x = made(setup);
        x.watch(0, 1, 6);
        due("another DAY's ROW", x.tally(1, 3, 7), 0);
        x.watch(0, 1, 6);
        due("stays", x.tallied(1, 3), 7);
    }

    private static void watched(BirdBook x, int day, int width, int n) {
        String with = "watch(" + day + ", " + width + ", " + n + ")";
        due(with, x.watch(day, width, n), 0);
        for (int i = 0; i < n; i++) {
            due(with + ": number " + i, x.tallied(day, i), 0);
        }
        due(with + ": behind its end", x.tally(day, n, 1), -6);
        if (n > 0) {
            due(with + ": its last", x.tally(day, n - 1, GREATEST[width]), 0);
            due(with + ": its last", x.tallied(day, n - 1), GREATEST[width]);
            x.tally(day, n - 1, 1);
            due(with + ": its WIDTH", x.tallied(day, n - 1), -GREATEST[width] - 1);
        }
    }

    private static void tearing() {
        Setup setup = EdgesOfRowsTest::some;
        says("The ROW of a DAY is torn: true; false, if it has none.");
        for (int day : NO_ROW_DAYS) {
            refused(setup, "tear(" + day + ")", x -> x.tear(day) ? 1 : 0, 0);
        }
        refused(setup, "tear(3)", x -> x.tear(3) ? 1 : 0, 0);
        says("They may be torn.");
        BirdBook x = made(setup);
        due("tear(0)", x.tear(0), true);
        due("tear(0) again", x.tear(0), false);
        due("tallied", x.tallied(0, 0), 0);
        due("tally", x.tally(0, 0, 1), -5);
        due("copy", x.copy(0, 0, 1, 0, 0), -5);
        due("the others stay", x.tally(1, 3, 1), 0);
        due("a ROW of no numbers", x.tear(199), true);
        due("watched anew", x.watch(0, 1, 6), 0);
        due("all 0", x.tallied(0, 0), 0);
    }

    private static void tallying() {
        Setup setup = EdgesOfRowsTest::some;
        says("-2: there is no such DAY (0 to 199); -5: it has no ROW; -6: it ends ahead of i, or i is below 0.");
        for (int day : NO_ROW_DAYS) {
            refused(setup, "tally(" + day + ", 0, 1)", x -> x.tally(day, 0, 1), -2);
            refused(setup, "-2 comes first", x -> x.tally(day, -1, 1), -2);
        }
        refused(setup, "tally(3, 0, 1)", x -> x.tally(3, 0, 1), -5);
        for (int i : new int[] {LEAST_INT, -1, 6, 7, 100, GREATEST_INT}) {
            refused(setup, "tally(0, " + i + ", 1)", x -> x.tally(0, i, 1), -6);
            refused(setup, "-5 comes first", x -> x.tally(3, i, 1), -5);
        }
        refused(setup, "a ROW of no numbers", x -> x.tally(199, 0, 1), -6);
        says("That number; 0, if tally() there would be refused.");
        BirdBook x = made(setup);
        for (int day : NO_ROW_DAYS) {
            due("tallied(" + day + ", 0)", x.tallied(day, 0), 0);
        }
        for (int i : new int[] {LEAST_INT, -1, 6, 100, GREATEST_INT}) {
            due("tallied(0, " + i + ")", x.tallied(0, i), 0);
        }
        due("tallied(3, 0)", x.tallied(3, 0), 0);
        due("tallied(199, 0)", x.tallied(199, 0), 0);
        due("tallied(0, 0)", x.tallied(0, 0), 1);
        due("tallied(0, 5)", x.tallied(0, 5), 6);
    }

    private static void wrapping() {
        says("Number i of the DAY's ROW is more by v, cut to its WIDTH: 0.");
        long[] v = {1, -1, 0, 0x7f, 0x80, 0xff, 0x100, 0x7fff, 0x8000, 0xffff, 0x10000, 0x7fffffffL, 0x80000000L,
            0xffffffffL, 0x100000000L, Long.MAX_VALUE, Long.MIN_VALUE, 0x0123456789abcdefL};
        for (int width = 0; width < 4; width++) {
            for (long more : v) {
                BirdBook x = new BirdBook();
                x.watch(7, width, 3);
                due("tally(7, 1, " + more + ")", x.tally(7, 1, more), 0);
                due("WIDTH " + width + ": " + more, x.tallied(7, 1), cut(width, more));
                x.tally(7, 1, more);
                due("WIDTH " + width + ": " + more + " twice", x.tallied(7, 1), cut(width, more + more));
                x.tally(7, 1, GREATEST[width]);
                due("WIDTH " + width + ": and its greatest", x.tallied(7, 1), cut(width, more + more + GREATEST[width]));
                due("the number ahead", x.tallied(7, 0), 0);
                due("the number behind", x.tallied(7, 2), 0);
            }
        }
        BirdBook x = new BirdBook();
        for (int width = 0; width < 4; width++) {
            x.watch(width, width, 1);
            x.tally(width, 0, -GREATEST[width] - 1);
            due("the least", x.tallied(width, 0), -GREATEST[width] - 1);
            x.tally(width, 0, -1);
            due("one less than the least", x.tallied(width, 0), GREATEST[width]);
        }
    }

    private static long cut(int width, long v) {
        int bits = 64 - (8 << width);
        return v << bits >> bits;
    }

    private static void copying() {
        Setup setup = EdgesOfRowsTest::some;
        says("-2: there is no such DAY; -5: one has no ROW; -7: they are not of one WIDTH; "
                + "-6: i, j or n is below 0, or one has not so many.");
        for (int day : NO_ROW_DAYS) {
            refused(setup, "copy from DAY " + day, x -> x.copy(day, 0, 0, 0, 1), -2);
            refused(setup, "copy to DAY " + day, x -> x.copy(0, 0, day, 0, 1), -2);
            refused(setup, "-2 ahead of -5", x -> x.copy(day, 0, 3, 0, 1), -2);
            refused(setup, "-2 ahead of -5", x -> x.copy(3, 0, day, 0, 1), -2);
            refused(setup, "-2 ahead of -6", x -> x.copy(0, -1, day, 0, 1), -2);
        }
        refused(setup, "no ROW to copy from", x -> x.copy(3, 0, 0, 0, 1), -5);
        refused(setup, "no ROW to copy to", x -> x.copy(0, 0, 3, 0, 1), -5);
        refused(setup, "no ROW, and nothing to copy", x -> x.copy(3, 0, 3, 0, 0), -5);
        refused(setup, "-5 ahead of -6", x -> x.copy(0, -1, 3, 0, 1), -5);
        refused(setup, "-5 ahead of -6", x -> x.copy(3, 0, 0, 0, 9), -5);
        refused(setup, "shorts to ints", x -> x.copy(0, 0, 2, 0, 1), -7);
        refused(setup, "ints to shorts", x -> x.copy(2, 0, 0, 0, 1), -7);
        refused(setup, "nothing of shorts to longs", x -> x.copy(0, 0, 199, 0, 0), -7);
        refused(setup, "-7 ahead of -6", x -> x.copy(0, 0, 2, 0, 7), -7);
        refused(setup, "-7 ahead of -6", x -> x.copy(0, -1, 2, 0, 1), -7);
        for (int w : new int[] {LEAST_INT, -1}) {
            refused(setup, "i is " + w, x -> x.copy(0, w, 1, 0, 1), -6);
            refused(setup, "j is " + w, x -> x.copy(0, 0, 1, w, 1), -6);
            refused(setup, "n is " + w, x -> x.copy(0, 0, 1, 0, w), -6);
            refused(setup, "i is " + w + ", n is 0", x -> x.copy(0, w, 1, 0, 0), -6);
            refused(setup, "j is " + w + ", n is 0", x -> x.copy(0, 0, 1, w, 0), -6);
            refused(setup, "i is behind, n is " + w, x -> x.copy(0, 6, 1, 4, w), -6);
        }
        copiesOfTooMany(setup);
    }

    private static void copiesOfTooMany(Setup setup) {
        int[][] tooMany = {{0, 0, 5}, {0, 1, 4}, {3, 0, 4}, {5, 0, 2}, {6, 0, 1}, {0, 4, 1}, {0, 5, 1}, {7, 0, 1},
            {0, 0, 100}, {0, 0, GREATEST_INT}, {1, 0, GREATEST_INT}, {0, 1, GREATEST_INT}, {GREATEST_INT, 0, 1},
            {0, GREATEST_INT, 1}, {GREATEST_INT, GREATEST_INT, GREATEST_INT}, {GREATEST_INT, 0, 2}};
        for (int[] t : tooMany) {
            String with = "copy(0, " + t[0] + ", 1, " + t[1] + ", " + t[2] + ")";
            refused(setup, with, x -> x.copy(0, t[0], 1, t[1], t[2]), -6);
        }
        // The document leaves these two open: from behind its end on, a ROW has not even no numbers.
        refused(setup, "nothing from behind the end", x -> x.copy(0, 7, 1, 0, 0), -6);
        refused(setup, "nothing to behind the end", x -> x.copy(0, 0, 1, 5, 0), -6);
        int[][] enough = {{0, 0, 4}, {2, 0, 4}, {5, 3, 1}, {0, 3, 1}, {6, 4, 0}, {0, 0, 0}, {3, 1, 3}};
        for (int[] e : enough) {
            BirdBook x = made(setup);
            due("copy(0, " + e[0] + ", 1, " + e[1] + ", " + e[2] + ")", x.copy(0, e[0], 1, e[1], e[2]), 0);
            for (int i = 0; i < 4; i++) {
                boolean copied = i >= e[1] && i < e[1] + e[2];
                due("number " + i, x.tallied(1, i), copied ? e[0] + i - e[1] + 1 : 0);
            }
            for (int i = 0; i < 6; i++) {
                due("the ROW that is copied stays: " + i, x.tallied(0, i), i + 1);
            }
        }
        BirdBook none = made(setup);
        due("nothing in a ROW of no numbers", none.copy(199, 0, 199, 0, 0), 0);
        due("one in a ROW of no numbers", none.copy(199, 0, 199, 0, 1), -6);
    }

    private static void overlapping() {
        says("n numbers of the ROW of a DAY from i on come to that of another one, from j on, as if all were taken first: 0.");
        int[][] moves = {{0, 1, 5}, {1, 0, 5}, {0, 2, 4}, {2, 0, 4}, {0, 5, 1}, {5, 0, 1}, {0, 0, 6}, {1, 3, 3}, {3, 1, 3}};
        for (int[] m : moves) {
            BirdBook x = made(EdgesOfRowsTest::some);
            due("copy in one ROW", x.copy(0, m[0], 0, m[1], m[2]), 0);
            for (int i = 0; i < 6; i++) {
                boolean moved = i >= m[1] && i < m[1] + m[2];
                due(m[2] + " from " + m[0] + " to " + m[1] + ": number " + i, x.tallied(0, i),
                        moved ? m[0] + i - m[1] + 1 : i + 1);
            }
        }
        for (int width = 0; width < 4; width++) {
            BirdBook x = new BirdBook();
            x.watch(10, width, 100);
            x.watch(11, width, 100);
            x.tally(10, 0, -GREATEST[width] - 1);
            x.tally(10, 99, GREATEST[width]);
            due("all of WIDTH " + width, x.copy(10, 0, 11, 0, 100), 0);
            due("the first", x.tallied(11, 0), -GREATEST[width] - 1);
            due("the last", x.tallied(11, 99), GREATEST[width]);
            x.tally(11, 99, 1);
            due("still of its WIDTH", x.tallied(11, 99), -GREATEST[width] - 1);
            due("the ROW that was copied", x.tallied(10, 99), GREATEST[width]);
        }
    }

    public static void main(String[] args) {
        watching();
        tearing();
        tallying();
        wrapping();
        copying();
        overlapping();
        end("the edges of ROWS");
    }
}
