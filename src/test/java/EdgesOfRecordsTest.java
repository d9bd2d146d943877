/** The edges of promises 8 to 16, 30, 31 and 37: RECORDS, what they can be of, and what is told of them. */
public final class EdgesOfRecordsTest extends Edges {
    private static final int[] NO_RECORDS = {LEAST_INT, -1, 6, 300, GREATEST_INT};

    /** RINGS 0 and 1 (PUT on 10) and 2 (PUT on 20); AGE is 0. */
    private static void threeRings(BirdBook x) {
        x.rule(0, 14600);
        plainRings(x, 10, 10, 20);
    }

    private static void full(BirdBook x) {
        threeRings(x);
        notes(x, 300);
    }

    private static BirdBook readWhole(BirdBook x, int sign) {
        return read(x, 0, sign, sign, sign, sign);
    }

    private static void weights() {
        says("-2: day is none, or the weight below 0 or above 4000");
        Setup setup = EdgesOfRecordsTest::threeRings;
        float[] refusedOnes = {-Float.MIN_VALUE, -0.125f, -1f, -Float.MAX_VALUE, Float.NEGATIVE_INFINITY,
            Math.nextUp(4000f), 4000.125f, 4001f, Float.MAX_VALUE, Float.POSITIVE_INFINITY};
        for (float weight : refusedOnes) {
            refusedReading(setup, "caught(10, " + weight + ")", x -> readWhole(x, 0).caught(10, weight), -2);
        }
        for (int day : NO_DAYS) {
            refusedReading(setup, "caught(" + day + ", 1)", x -> readWhole(x, 0).caught(day, 1f), -2);
        }
        says("The weight is cut to tenths.");
        float[] weights = {0f, -0f, Float.MIN_VALUE, 0.0625f, 0.125f, 0.875f, 0.9375f, 1f, 12.875f, 999.9375f, 3999.875f,
            Math.nextDown(4000f), 4000f};
        int[] tenths = {0, 0, 0, 0, 1, 8, 9, 10, 128, 9999, 39998, 39999, 40000};
        for (int i = 0; i < weights.length; i++) {
            BirdBook x = made(setup);
            due("caught(10, " + weights[i] + ")", readWhole(x, 0).caught(10, weights[i]), 0);
            due("tenths of " + weights[i], x.record(0, 2), tenths[i]);
        }
    }

    private static void fullBook() {
        says("-3: what was read is not as the KIND wants; -8: there are 300 RECORDS.");
        Setup setup = EdgesOfRecordsTest::full;
        refusedReading(setup, "caught", x -> caught(x, 10, 0), -8);
        refusedReading(setup, "caught: -3 comes first", x -> read(x, 0, 0, 0, 0).caught(10, 1f), -3);
        refusedReading(setup, "caught: -2 comes first (day)", x -> caught(x, -1, 0), -2);
        refusedReading(setup, "caught: -2 comes first (weight)", x -> readWhole(x, 0).caught(10, 5000f), -2);
        says("A SIGHT: -2 (day); -3; -8.");
        refusedReading(setup, "sight", x -> sight(x, 10, 0), -8);
        refusedReading(setup, "sight: -3 comes first", x -> x.sight(10), -3);
        refusedReading(setup, "sight: -2 comes first", x -> sight(x, 14601, 0), -2);
        says("A PAIR: -2 (day); -3; -8.");
        refusedReading(setup, "pair", x -> pair(x, 10, half(0), 1), -8);
        refusedReading(setup, "pair: -3 comes first", x -> read(x, 0, 1).pair(10), -3);
        refusedReading(setup, "pair: -2 comes first", x -> pair(x, 14601, half(0), 1), -2);
        says("A FOUND: -2 (day); -3; -8.");
        refusedReading(setup, "found", x -> found(x, 10, 0), -8);
        refusedReading(setup, "found: -3 comes first", x -> read(x, 0, 0, 0, 0).found(10), -3);
        refusedReading(setup, "found: -2 comes first", x -> found(x, 14601, 0), -2);
        says("A NOTE: its number; -8.");
        refused(setup, "note", x -> x.note(7), -8);
        says("-2: day is none, or there is no such RING; -3; -8; -5: a HALF is not SURE (as of that DAY, now)");
        refusedReading(setup, "nest", x -> nest(x, 20, 2, 0, 1), -8);
        refusedReading(setup, "nest: -3 comes first", x -> readWhole(x, 0).nest(20, 2), -3);
        refusedReading(setup, "nest: -2 comes first", x -> nest(x, 20, 3, 0, 1), -2);
        refusedReading(setup, "nest: -8 ahead of -5", x -> nest(x, 20, 2, 0, 9), -8);
        refusedReading(setup, "nest: -8 ahead of -4", x -> nest(x, 20, 2, 0, 0), -8);
        refusedReading(setup, "nest: -8 ahead of -9", x -> nest(x, 20, 0, 0, 1), -8);
    }

    private static void firstRefusals() {
        Setup setup = EdgesOfRecordsTest::threeRings;
        says("-2: day is none, or the weight below 0 or above 4000; -3: what was read is not as the KIND wants");
        refusedReading(setup, "caught: -2 comes first (day)", x -> x.caught(-1, 1f), -2);
        refusedReading(setup, "caught: -2 comes first (weight)", x -> x.caught(10, -1f), -2);
        refusedReading(setup, "caught: -3", x -> x.caught(10, 1f), -3);
        says("A SIGHT: -2 (day); -3; -8.");
        refusedReading(setup, "sight: -2 comes first", x -> x.sight(-1), -2);
        says("A PAIR: -2 (day); -3; -8.");
        refusedReading(setup, "pair: -2 comes first", x -> x.pair(-1), -2);
        refusedReading(setup, "pair: -3", x -> x.pair(10), -3);
        says("A FOUND: -2 (day); -3; -8.");
        refusedReading(setup, "found: -2 comes first", x -> x.found(-1), -2);
        refusedReading(setup, "found: -3", x -> x.found(10), -3);
    }

    private static void nestRefusals() {
        Setup setup = EdgesOfRecordsTest::threeRings;
        says("-2: day is none, or there is no such RING; -3; -8");
        for (int young : new int[] {LEAST_INT, -1, 3, 60, GREATEST_INT}) {
            refusedReading(setup, "nest(20, " + young + ")", x -> nest(x, 20, young, 0, 1), -2);
        }
        refusedReading(setup, "-2 comes ahead of -3", x -> x.nest(20, 3), -2);
        refusedReading(setup, "-3", x -> x.nest(20, 2), -3);
        refusedReading(setup, "-2 comes ahead of -5", x -> nest(x, 14601, 2, 0, 9), -2);
        refusedReading(setup, "-2 comes ahead of -4", x -> nest(x, 20, 3, 0, 0), -2);
        refusedReading(setup, "-2 comes ahead of -9", x -> nest(x, -1, 0, 0, 1), -2);
        says("-5: a HALF is not SURE (as of that DAY, now)");
        refusedReading(setup, "HALF 0 FITS none", x -> nest(x, 20, 2, 9, 1), -5);
        refusedReading(setup, "HALF 1 FITS none", x -> nest(x, 20, 2, 0, 9), -5);
        refusedReading(setup, "-5 comes ahead of -9", x -> nest(x, 20, 0, 0, 9), -5);
        Setup twins = x -> {
            threeRings(x);
            ring(x, 10, NONE, 1, 1, 1, 9);
        };
        refusedReading(twins, "HALF 0 FITS two", x -> nest(x, 20, 2, 1, 0), -5);
        refusedReading(twins, "HALF 1 FITS two", x -> nest(x, 20, 2, 0, 1), -5);
        refusedReading(twins, "-5 comes ahead of -4", x -> nest(x, 20, 2, 1, 1), -5);
        refusedReading(setup, "PUT a DAY behind that", x -> nest(x, 19, 0, 1, 2), -5);
        due("PUT on that DAY", nest(made(EdgesOfRecordsTest::noAge), 20, 0, 1, 2), 0);
        Setup lost = x -> {
            threeRings(x);
            x.lose(1, 30);
        };
        refusedReading(lost, "LOST ahead of that DAY", x -> nest(x, 31, 2, 0, 1), -5);
        due("LOST on that DAY", nest(made(lost), 30, 2, 0, 1), 0);
        Setup dead = x -> {
            threeRings(x);
            found(x, 30, 1);
        };
        refusedReading(dead, "dead ahead of that DAY", x -> nest(x, 31, 2, 0, 1), -5);
        due("dead on that DAY", nest(made(dead), 30, 2, 0, 1), 1);
        BirdBook sure = made(twins);
        sure.lose(3, 15);
        due("SURE, as the other RING is LOST", nest(sure, 16, 2, 0, 1), 0);
        nestsOfOneBird(setup);
        wrongNests(setup);
    }

    /** Three RINGS that HATCHED on one DAY, so that each may be another one's PARENT by AGE 0. */
    private static void noAge(BirdBook x) {
        x.rule(0, 14600);
        plainRing(x, 10, 5, 0);
        plainRing(x, 10, 5, 1);
        plainRing(x, 20, 5, 2);
    }

    private static void nestsOfOneBird(Setup setup) {
        says("-4: both FIT one BIRD");
        refusedReading(setup, "the same HALF twice", x -> nest(x, 20, 2, 0, 0), -4);
        refusedReading(setup, "by other LEGS", x -> {
            x.read(0, 0, 1);
            x.read(1, 3, 1);
            return x.nest(20, 2);
        }, -4);
        refusedReading(x -> {
            threeRings(x);
            x.lose(0, 20);
            x.join(0, 2);
        }, "by two RINGS of one BIRD", x -> nest(x, 20, 1, 0, 2), -4);
        refusedReading(setup, "-4 comes ahead of -9", x -> nest(x, 20, 0, 0, 0), -4);
    }

    private static void wrongNests(Setup setup) {
        says("-9: it would be WRONG with the BIRDS that they FIT as PARENTS.");
        refusedReading(setup, "the young is HALF 0's", x -> nest(x, 20, 0, 0, 1), -9);
        refusedReading(setup, "the young is HALF 1's", x -> nest(x, 20, 1, 0, 1), -9);
        refusedReading(setup, "HALF 0's BIRD is born behind the young", x -> nest(x, 20, 1, 2, 0), -9);
        refusedReading(setup, "HALF 1's BIRD is born behind the young", x -> nest(x, 20, 1, 0, 2), -9);
        due("born on one DAY, by AGE 0", nest(made(EdgesOfRecordsTest::noAge), 20, 2, 0, 1), 0);
        refusedReading(x -> {
            noAge(x);
            plainRing(x, 20, 5, 3);
            nest(x, 20, 0, 1, 2);
        }, "its own PARENT's PARENT", x -> nest(x, 20, 1, 0, 3), -9);
        for (int age : new int[] {1, 365, 5000}) {
            Setup aged = x -> {
                x.rule(age, 14600);
                plainRings(x, 100, 100, 100 + age, 100 + age - 1);
            };
            due("AGE DAYS ahead", nest(made(aged), 9000, 2, 0, 1), 0);
            refusedReading(aged, "AGE DAYS less one ahead", x -> nest(x, 9000, 3, 0, 1), -9);
        }
    }

    private static void told() {
        says("(It tells the least RINGS that the HALVES READ LIKE of these BIRDS, for good.)");
        Setup setup = x -> {
            x.rule(0, 14600);
            ring(x, 10, NONE, 7, 7, 7, 8);
            ring(x, 0, NONE, 7, 7, 7, 7);
            plainRing(x, 0, NONE, 1);
            plainRing(x, 90, NONE, 2);
            x.lose(1, 10);
            x.join(1, 0);
        };
        int[] days = {9, 10, 11};
        int[] rings = {1, 0, 0};
        for (int i = 0; i < days.length; i++) {
            BirdBook x = made(setup);
            due("both RINGS read alike on DAY " + days[i], nest(x, days[i], 3, 7, 1), 0);
            due("HALF 0 tells", x.record(0, 4), rings[i]);
            due("HALF 1 tells", x.record(0, 5), 2);
        }
        BirdBook x = made(setup);
        due("the other way round", nest(x, 9, 3, 1, 7), 0);
        due("HALF 0 tells", x.record(0, 4), 2);
        due("HALF 1 tells", x.record(0, 5), 1);
        x.part(0);
        due("for good", x.record(0, 5), 1);
        due("a PARENT by the RING that was told", x.parent(3, 0), 1);
        x.lose(2, 0);
        due("HALF 0 FITS none any more", x.fits(0, 0), 0);
        due("for good", x.record(0, 4), 2);
        due("for good", x.parent(3, 1), 2);
        found(x, 5, 7);
        due("HALF 1 FITS none any more", x.fits(0, 1), 0);
        due("for good", x.record(0, 5), 1);
        due("for good", x.parent(3, 0), 1);
    }

    /** One RECORD of each KIND, 0 to 5; RING 0 is LOST on 30. */
    private static void allKinds(BirdBook x) {
        threeRings(x);
        readWhole(x, 0).caught(10, 0f);
        sight(x, 11, 1);
        pair(x, 12, half(0), NONE, 1);
        nest(x, 20, 2, 0, 1);
        found(x, 40, 1);
        x.note(0);
        x.lose(0, 30);
    }

    private static void asked() {
        Setup setup = EdgesOfRecordsTest::allKinds;
        int[] halves = {1, 1, 2, 2, 1, 0};
        int[] wrongHalves = {LEAST_INT, -1, 2, GREATEST_INT};
        for (int record = 0; record < 6; record++) {
            BirdBook x = made(setup);
            for (int half = 0; half < 2; half++) {
                boolean there = half < halves[record];
                String at = "(" + record + ", " + half + ")";
                says("How many BIRDS a HALF of a RECORD FITS. -2: there is none such.");
                due("fits" + at, x.fits(record, half), there ? 1 : -2);
                says("The i-th of these (from 0 on, by their NUMBERS); NONE if there is none such.");
                due("who" + at, x.who(record, half, 0) != NONE, there);
                says("NONE, if there is no such RING, RECORD or HALF.");
                due("nearest" + at, x.nearest(record, half) != NONE, there);
                says("-2: there is none such; -5: it FITS no BIRD");
                due("list" + at, made(setup).list(record, half), there ? 1 : -2);
            }
            for (int half : wrongHalves) {
                noneSuch(setup, record, half);
            }
        }
        for (int record : NO_RECORDS) {
            noneSuch(setup, record, 0);
            noneSuch(setup, record, 1);
        }
    }

    private static void noneSuch(Setup setup, int record, int half) {
        String at = "(" + record + ", " + half + ")";
        BirdBook x = made(setup);
        says("How many BIRDS a HALF of a RECORD FITS. -2: there is none such.");
        due("fits" + at, x.fits(record, half), -2);
        says("The i-th of these (from 0 on, by their NUMBERS); NONE if there is none such.");
        due("who" + at, x.who(record, half, 0), NONE);
        says("NONE, if there is no such RING, RECORD or HALF.");
        due("nearest" + at, x.nearest(record, half), NONE);
        says("-2: there is none such; -5: it FITS no BIRD");
        refused(setup, "list" + at, b -> b.list(record, half), -2);
    }

    private static void who() {
        says("The i-th of these (from 0 on, by their NUMBERS); NONE if there is none such.");
        BirdBook x = new BirdBook();
        ring(x, 10, NONE, 1, 0, 0, 0);
        ring(x, 10, NONE, 2, 2, 2, 2);
        ring(x, 10, NONE, 1, 3, 3, 3);
        ring(x, 10, NONE, 1, 4, 4, 4);
        sight(x, 10, 1);
        sight(x, 10, 9);
        due("fits", x.fits(0, 0), 3);
        int[] birds = {0, 2, 3};
        for (int i = 0; i < 3; i++) {
            due("who(0, 0, " + i + ")", x.who(0, 0, i), birds[i]);
        }
        for (int i : new int[] {LEAST_INT, -1, 3, 4, 60, 64, GREATEST_INT}) {
            due("who(0, 0, " + i + ")", x.who(0, 0, i), NONE);
        }
        due("a HALF that FITS none", x.fits(1, 0), 0);
        due("a HALF that FITS none", x.who(1, 0, 0), NONE);
        BirdBook all = new BirdBook();
        for (int sign = 0; sign < 60; sign++) {
            ring(all, 10, NONE, 7, sign, sign, sign);
        }
        sight(all, 10, 7);
        due("all 60", all.fits(0, 0), 60);
        for (int i = 0; i < 60; i++) {
            due("who(0, 0, " + i + ")", all.who(0, 0, i), i);
        }
        due("who(0, 0, 60)", all.who(0, 0, 60), NONE);
    }

    private static void nearest() {
        says("The RING PUT on that DAY or before (LOST or not, of a dead BIRD or not) "
                + "that has the fewest SIGNS unlike those read, of several the least");
        Setup setup = x -> {
            ring(x, 20, NONE, 1, 2, 3, 4);
            ring(x, 10, NONE, 1, 2, 8, 9);
            ring(x, 10, NONE, 1, 2, 9, 8);
        };
        due("PUT on that DAY", nearestTo(made(setup), 20, 1, 2, 3, 4), 0);
        due("PUT a DAY behind", nearestTo(made(setup), 19, 1, 2, 3, 4), 1);
        due("of several the least", nearestTo(made(setup), 19, 1, 2), 1);
        due("of several the least", nearestTo(made(setup), 20, 1, 2), 0);
        due("one unlike, though it FITS none", nearestTo(made(setup), 20, 7), 0);
        due("all unlike", nearestTo(made(setup), 10, 50, 50, 50, 50), 1);
        due("what was not read is not unlike", nearestTo(made(setup), 20, NONE, NONE, 9), 2);
        due("fewer unlike ahead of a lesser RING", nearestTo(made(setup), 20, 1, 2, 9, 4), 0);
        due("fewer unlike ahead of a lesser RING", nearestTo(made(setup), 20, 5, 2, 9, 8), 2);
        BirdBook lost = made(setup);
        lost.lose(2, 10);
        due("LOST or not", nearestTo(lost, 30, 1, 2, 9, 8), 2);
        BirdBook dead = made(setup);
        read(dead, 0, 1, 2, 9, 8).found(10);
        due("of a dead BIRD or not", nearestTo(dead, 30, 1, 2, 9, 8), 2);
        says("NONE, if there is no such RING, RECORD or HALF.");
        due("no RING PUT by then", nearestTo(made(setup), 9, 1, 2, 3, 4), NONE);
        due("no RING at all", nearestTo(new BirdBook(), 9, 1), NONE);
        BirdBook x = made(setup);
        pair(x, 10, half(1, 2, 8), 1, 2, 9);
        due("HALF 0", x.nearest(0, 0), 1);
        due("HALF 1", x.nearest(0, 1), 2);
        due("a CATCH, though it FITS none", x.nearest(read(x, 0, 1, 2, 9, 7).caught(10, 1f), 0), 2);
        due("a FOUND, though it FITS none", x.nearest(read(x, 0, 1, 2, 9, 7).found(10), 0), 2);
    }

    private static int nearestTo(BirdBook x, int day, int... signs) {
        return x.nearest(sight(x, day, signs), 0);
    }

    private static void records() {
        says("Of a RECORD: 0 its KIND, 1 its DAY (NOTE: NONE), 2 a CATCH's weight in tenths, 3 a NEST's young, "
                + "4, 5 the RINGS that its HALVES tell (others NONE), 6 how many HALVES");
        int[][] want = {
            {0, 10, 0, NONE, NONE, NONE, 1}, {1, 11, NONE, NONE, NONE, NONE, 1}, {2, 12, NONE, NONE, NONE, NONE, 2},
            {3, 20, NONE, 2, 0, 1, 2}, {4, 40, NONE, NONE, NONE, NONE, 1}, {5, NONE, NONE, NONE, NONE, NONE, 0}};
        for (int record = 0; record < 6; record++) {
            BirdBook x = made(EdgesOfRecordsTest::allKinds);
            for (int what = 0; what < 7; what++) {
                due("record(" + record + ", " + what + ")", x.record(record, what), want[record][what]);
            }
        }
        says("10 + 4 * half + leg: the SIGN that was read (NONE).");
        int[][] signs = {
            {0, 0, 0, 0, NONE, NONE, NONE, NONE}, {1, NONE, NONE, NONE, NONE, NONE, NONE, NONE},
            {0, NONE, NONE, NONE, NONE, 1, NONE, NONE}, {0, 0, 0, 0, 1, 1, 1, 1},
            {1, 1, 1, 1, NONE, NONE, NONE, NONE}, {NONE, NONE, NONE, NONE, NONE, NONE, NONE, NONE}};
        for (int record = 0; record < 6; record++) {
            BirdBook x = made(EdgesOfRecordsTest::allKinds);
            for (int place = 0; place < 8; place++) {
                due("record(" + record + ", " + (10 + place) + ")", x.record(record, 10 + place), signs[record][place]);
            }
        }
        says("NONE for another what, or if there is none such.");
        BirdBook x = made(EdgesOfRecordsTest::allKinds);
        for (int record = 0; record < 6; record++) {
            for (int what : new int[] {LEAST_INT, -2, -1, 7, 8, 9, 18, 19, 60, GREATEST_INT}) {
                due("record(" + record + ", " + what + ")", x.record(record, what), NONE);
            }
        }
        for (int record : NO_RECORDS) {
            for (int what : new int[] {0, 1, 6, 10, 17}) {
                due("record(" + record + ", " + what + ")", x.record(record, what), NONE);
            }
        }
    }

    private static void noted() {
        says("The number of a NOTE; 0 if RECORD record is none.");
        BirdBook x = made(EdgesOfRecordsTest::allKinds);
        due("a NOTE of 0", x.noted(5), 0);
        for (long v : new long[] {1, -1, Long.MIN_VALUE, Long.MAX_VALUE, 1L << 32}) {
            due("noted", x.noted(x.note(v)), v);
        }
        for (int record = 0; record < 5; record++) {
            due("noted(" + record + ")", x.noted(record), 0);
        }
        for (int record : new int[] {LEAST_INT, -1, 11, 300, GREATEST_INT}) {
            due("noted(" + record + ")", x.noted(record), 0);
        }
        // A refused NEST has taken the place of the next RECORD for a moment: a NOTE there has nothing of it.
        BirdBook y = made(EdgesOfRecordsTest::threeRings);
        nest(y, 20, 0, 0, 1);
        due("note", y.note(9), 0);
        for (int what = 0; what < 18; what++) {
            due("record(0, " + what + ")", y.record(0, what), what == 0 ? 5 : what == 6 ? 0 : NONE);
        }
        due("noted(0)", y.noted(0), 9);
    }

    private static void counts() {
        says("0 RINGS, 1 RECORDS, 2 JOINS (PARTED ones, too), 3 BIRDS, 4 BIRDS with a DEATH, 5 the LIST");
        Setup setup = x -> {
            x.rule(0, 14600);
            plainRing(x, 10, 0, 0);
            plainRing(x, 20, NONE, 1);
            plainRing(x, 30, 30, 2);
            x.lose(0, 15);
            x.join(0, 1);
            x.part(0);
            x.join(0, 1);
            x.lose(1, 30);
            x.join(1, 2);
            x.part(2);
            found(x, 40, 2);
            found(x, 41, 2);
            sight(x, 12, 0);
            x.list(2, 0);
        };
        int[] want = {3, 3, 3, 2, 1, 1};
        BirdBook x = made(setup);
        for (int what = 0; what < 6; what++) {
            due("count(" + what + ")", x.count(what), want[what]);
        }
        says("of RING what / 10 - 1, for what from 10 on, what % 10: 0 PUT, 1 HATCHED (NONE), 2 LOST (NONE), "
                + "3 to 6 its SIGNS.");
        int[][] rings = {{10, 0, 15, 0, 0, 0, 0}, {20, NONE, 30, 1, 1, 1, 1}, {30, 30, NONE, 2, 2, 2, 2}};
        for (int ring = 0; ring < 3; ring++) {
            for (int what = 0; what < 7; what++) {
                due("count(" + (10 * ring + 10 + what) + ")", x.count(10 * ring + 10 + what), rings[ring][what]);
            }
        }
        says("NONE for another what, or where there is none such.");
        for (int what : new int[] {LEAST_INT, -10, -1, 6, 7, 8, 9, 17, 18, 19, 27, 39, 40, 43, 46, 600, 609, 610,
            GREATEST_INT - 7, GREATEST_INT}) {
            due("count(" + what + ")", x.count(what), NONE);
        }
        BirdBook none = new BirdBook();
        due("count(10) without a RING", none.count(10), NONE);
        due("count(13) without a RING", none.count(13), NONE);
    }

    public static void main(String[] args) {
        weights();
        fullBook();
        firstRefusals();
        nestRefusals();
        told();
        asked();
        who();
        nearest();
        records();
        noted();
        counts();
        end("the edges of RECORDS");
    }
}
