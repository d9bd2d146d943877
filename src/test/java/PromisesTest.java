/** Each promise of the document by hand: ordinary inputs, the edges that it names, and wrong inputs. */
public final class PromisesTest {
    private static final int NONE = BirdBook.NONE;
    private static int wrong = 0;
    private static int promise = 0;

    private static void due(String call, long got, long want) {
        if (got != want) {
            wrong++;
            System.out.println("promise " + promise + ": " + call + " answered " + got + ", due is " + want);
        }
    }

    private static void due(String call, boolean got, boolean want) {
        due(call, got ? 1 : 0, want ? 1 : 0);
    }

    /** Reads SIGNS from LEG 0 on; NONE for what was not read. */
    private static BirdBook read(BirdBook x, int half, int... signs) {
        for (int leg = 0; leg < signs.length; leg++) {
            x.read(half, leg, signs[leg]);
        }
        return x;
    }

    private static int ring(BirdBook x, int day, int hatched, int... signs) {
        return read(x, 0, signs).ring(day, hatched);
    }

    /** A RING with four times the same SIGN, so that no two of them are alike by one SIGN. */
    private static int plainRing(BirdBook x, int day, int hatched, int sign) {
        return ring(x, day, hatched, sign, sign, sign, sign);
    }

    private static int caught(BirdBook x, int day, int sign) {
        return read(x, 0, sign, sign, sign, sign).caught(day, 1f);
    }

    private static int found(BirdBook x, int day, int sign) {
        return read(x, 0, sign, sign, sign, sign).found(day);
    }

    private static int sight(BirdBook x, int day, int... signs) {
        return read(x, 0, signs).sight(day);
    }

    private static int nest(BirdBook x, int day, int young, int sign, int other) {
        read(x, 0, sign, sign, sign, sign);
        return read(x, 1, other, other, other, other).nest(day, young);
    }

    private static void newObject() {
        promise = 1;
        BirdBook x = new BirdBook();
        for (int what = 0; what <= 5; what++) {
            due("count(" + what + ")", x.count(what), 0);
        }
        due("tear(0)", x.tear(0), false);
        due("sight(1)", x.sight(1), -3);
        due("NONE", BirdBook.NONE, -1);
        due("bird(0)", x.bird(0), NONE);
    }

    private static void rule() {
        promise = 2;
        BirdBook x = new BirdBook();
        due("rule(-1, 5)", x.rule(-1, 5), false);
        due("rule(5001, 5)", x.rule(5001, 5), false);
        due("rule(5, 0)", x.rule(5, 0), false);
        due("rule(5, 14601)", x.rule(5, 14601), false);
        due("rule(5000, 14600)", x.rule(5000, 14600), true);
        due("rule(0, 1)", x.rule(0, 1), true);
        due("ring more than GREATEST behind hatched", plainRing(x, 10, 8, 1), -2);
        due("ring GREATEST behind hatched", plainRing(x, 10, 9, 1), 0);
        due("rule with a RING", x.rule(0, 1), false);
        BirdBook first = new BirdBook();
        due("first GREATEST", plainRing(first, 5475, 0, 1), 0);
        due("first GREATEST", plainRing(first, 5476, 0, 2), -2);
        plainRing(first, 5000, NONE, 3);
        plainRing(first, 5000, NONE, 4);
        plainRing(first, 5364, NONE, 5);
        plainRing(first, 5365, NONE, 6);
        due("first AGE", nest(first, 6000, 3, 3, 4), -9);
        due("first AGE", nest(first, 6000, 4, 3, 4), 0);
    }

    private static void reading() {
        promise = 3;
        BirdBook x = new BirdBook();
        due("read(-1, 0, 0)", x.read(-1, 0, 0), false);
        due("read(2, 0, 0)", x.read(2, 0, 0), false);
        due("read(0, -1, 0)", x.read(0, -1, 0), false);
        due("read(0, 4, 0)", x.read(0, 4, 0), false);
        due("read(0, 0, -2)", x.read(0, 0, -2), false);
        due("read(0, 0, 100)", x.read(0, 0, 100), false);
        due("read(0, 0, 99)", x.read(0, 0, 99), true);
        due("read(0, 1, 0)", x.read(0, 1, 0), true);
        due("read(0, 3, 5)", x.read(0, 3, 5), true);
        due("read(0, 3, NONE)", x.read(0, 3, NONE), true);
        due("read(1, 3, 5)", x.read(1, 3, 5), true);
        due("read(1, 3, NONE)", x.read(1, 3, NONE), true);
        due("sight(0)", x.sight(0), 0);
        int[] read = {99, 0, NONE, NONE, NONE, NONE, NONE, NONE};
        for (int i = 0; i < read.length; i++) {
            due("record(0, " + (10 + i) + ")", x.record(0, 10 + i), read[i]);
        }
        x.read(0, 0, 1);
        x.note(1);
        due("a NOTE leaves the READING", x.sight(1), 2);
        x.read(0, 0, 1);
        due("a refused PAIR", x.pair(1), -3);
        due("takes the READING", x.sight(1), -3);
        read(x, 0, 1, 1, 1, 1);
        due("a refused FOUND", x.found(-1), -2);
        due("takes the READING", x.found(1), -3);
        read(x, 0, 1, 1, 1, 1);
        due("a refused NEST", x.nest(1, 7), -2);
        due("takes the READING", x.sight(1), -3);
    }

    private static void ringing() {
        promise = 4;
        BirdBook x = new BirdBook();
        due("day -1", ring(x, -1, NONE, 1, 2, 3, 4), -2);
        due("day 14601", ring(x, 14601, NONE, 1, 2, 3, 4), -2);
        due("hatched -2", ring(x, 10, -2, 1, 2, 3, 4), -2);
        due("hatched behind", ring(x, 10, 11, 1, 2, 3, 4), -2);
        due("hatched too early", ring(x, 14600, 9124, 1, 2, 3, 4), -2);
        due("-2 ahead of -3", x.ring(-1, NONE), -2);
        due("three SIGNS", ring(x, 10, NONE, 1, 2, 3), -3);
        read(x, 1, NONE, 5);
        due("HALF 1 has one", ring(x, 10, NONE, 1, 2, 3, 4), -3);
        due("hatched as early as can be", ring(x, 14600, 9125, 1, 2, 3, 4), 0);
        due("the same SIGNS", ring(x, 10, NONE, 1, 2, 3, 4), -4);
        due("one other SIGN", ring(x, 0, 0, 1, 2, 3, 5), 1);
        for (int i = 2; i < 60; i++) {
            due("ring " + i, ring(x, i, NONE, 50, 50, 50, i), i);
        }
        due("-4 ahead of -8", ring(x, 1, NONE, 1, 2, 3, 5), -4);
        due("61st", ring(x, 1, NONE, 9, 9, 9, 9), -8);
        due("RINGS", x.count(0), 60);
        due("BIRDS", x.count(3), 60);
        due("bird(59)", x.bird(59), 59);
    }

    private static void losing() {
        promise = 5;
        BirdBook x = new BirdBook();
        plainRing(x, 10, NONE, 1);
        due("lose(1, 10)", x.lose(1, 10), -2);
        due("lose(-1, 10)", x.lose(-1, 10), -2);
        due("lose(0, -1)", x.lose(0, -1), -2);
        due("lose(0, 14601)", x.lose(0, 14601), -2);
        due("lose(0, 9)", x.lose(0, 9), -3);
        due("lose(0, 10)", x.lose(0, 10), 0);
        due("-3 ahead of -4", x.lose(0, 9), -3);
        due("lose(0, 20)", x.lose(0, 20), -4);
        due("LOST", x.count(12), 10);
        due("on the DAY of the loss", x.fits(caught(x, 10, 1), 0), 1);
        due("behind it", x.fits(caught(x, 11, 1), 0), 0);
        plainRing(x, 10, NONE, 2);
        found(x, 30, 2);
        due("death(1)", x.death(1), 30);
        x.lose(1, 20);
        due("a FOUND behind the loss is of no RING", x.death(1), NONE);
    }

    private static void joining() {
        promise = 6;
        BirdBook x = new BirdBook();
        x.rule(0, 14600);
        plainRing(x, 10, NONE, 1);
        plainRing(x, 19, NONE, 2);
        plainRing(x, 20, NONE, 3);
        plainRing(x, 30, NONE, 4);
        due("join(0, 4)", x.join(0, 4), -2);
        due("join(-1, 0)", x.join(-1, 0), -2);
        due("join(0, 0)", x.join(0, 0), -4);
        due("not LOST", x.join(0, 2), -3);
        x.lose(0, 20);
        due("PUT ahead of the loss", x.join(0, 1), -3);
        due("PUT on the loss", x.join(0, 2), 0);
        due("of one BIRD", x.join(2, 0), -4);
        x.lose(2, 25);
        due("a third RING", x.join(2, 3), 1);
        due("bird(3)", x.bird(3), 0);
        due("BIRDS", x.count(3), 2);
        BirdBook dead = new BirdBook();
        plainRing(dead, 10, NONE, 1);
        plainRing(dead, 30, NONE, 2);
        dead.lose(0, 20);
        found(dead, 20, 1);
        due("dead ahead of the other RING", dead.join(0, 1), -5);
        BirdBook other = new BirdBook();
        plainRing(other, 10, NONE, 1);
        plainRing(other, 30, NONE, 2);
        plainRing(other, 40, NONE, 3);
        other.lose(0, 20);
        other.lose(1, 35);
        found(other, 35, 2);
        due("one BIRD, dead on 35", other.join(0, 1), 0);
        due("and a RING of 40", other.join(0, 2), -5);
        found(other, 40, 3);
        due("dead on the DAY of the PUT is no hindrance", other.death(2), 40);
        joinsAtTheirLimit();
        wrongJoins();
    }

    private static void joinsAtTheirLimit() {
        BirdBook x = new BirdBook();
        x.rule(0, 14600);
        for (int sign = 0; sign < 5; sign++) {
            plainRing(x, 10 * sign, NONE, sign);
        }
        x.lose(0, 10);
        nest(x, 50, 4, 2, 3);
        for (int i = 0; i < 60; i++) {
            due("join " + i, x.join(0, 1), i);
            due("part " + i, x.part(i), 0);
        }
        due("61st", x.join(0, 1), -8);
        due("bird(1)", x.bird(1), 1);
        due("JOINS", x.count(2), 60);
        x.lose(2, 40);
        due("-9 ahead of -8", x.join(2, 4), -9);
        due("-3 ahead of -8", x.join(1, 0), -3);
        due("part(60)", x.part(60), -2);
    }

    private static void wrongJoins() {
        BirdBook x = new BirdBook();
        x.rule(0, 14600);
        for (int sign = 0; sign < 4; sign++) {
            plainRing(x, 10, NONE, sign);
        }
        due("a NEST of 0 and 1 with young 2", nest(x, 10, 2, 0, 1), 0);
        x.lose(2, 10);
        due("a young that is its own PARENT", x.join(2, 0), -9);
        due("bird(2)", x.bird(2), 2);
        due("a NEST of 2 and 3 with young 1", nest(x, 10, 1, 2, 3), -9);
        x.lose(3, 10);
        due("3 has no kin", x.join(3, 0), 0);
        due("parent(2, 0)", x.parent(2, 0), 0);
        due("bird(3)", x.bird(3), 0);
        BirdBook aged = new BirdBook();
        aged.rule(100, 14600);
        plainRing(aged, 0, NONE, 0);
        plainRing(aged, 0, NONE, 1);
        plainRing(aged, 200, NONE, 2);
        plainRing(aged, 50, NONE, 3);
        due("nest", nest(aged, 210, 2, 0, 1), 0);
        aged.lose(3, 60);
        due("PUT of the young would be 50", aged.join(3, 2), -9);
        due("bird(3)", aged.bird(3), 3);
        due("JOINS", aged.count(2), 0);
        plainRing(aged, 300, 110, 4);
        aged.lose(0, 250);
        due("the PARENT would have HATCHED on 110", aged.join(0, 4), -9);
        plainRing(aged, 300, 100, 5);
        due("on 100 is AGE ahead", aged.join(0, 5), 0);
    }

    private static void parting() {
        promise = 7;
        BirdBook x = new BirdBook();
        x.rule(100, 14600);
        plainRing(x, 0, NONE, 0);
        plainRing(x, 150, NONE, 1);
        plainRing(x, 0, NONE, 2);
        plainRing(x, 200, NONE, 3);
        x.lose(0, 10);
        due("part(0)", x.part(0), -2);
        due("part(-1)", x.part(-1), -2);
        due("join", x.join(0, 1), 0);
        due("a NEST that tells RING 1", nest(x, 210, 3, 1, 2), 0);
        due("told", x.record(0, 4), 1);
        due("parent(3, 0)", x.parent(3, 0), 0);
        due("1 would be born on 150", x.part(0), -9);
        due("bird(1)", x.bird(1), 0);
        BirdBook y = new BirdBook();
        plainRing(y, 0, NONE, 0);
        plainRing(y, 20, NONE, 1);
        plainRing(y, 30, NONE, 2);
        y.lose(0, 10);
        y.lose(1, 25);
        y.join(0, 1);
        y.join(1, 2);
        due("bird(2)", y.bird(2), 0);
        due("part(0)", y.part(0), 0);
        due("bird(2)", y.bird(2), 1);
        due("bird(0)", y.bird(0), 0);
        due("part(0) again", y.part(0), -4);
        due("join again", y.join(0, 2), 2);
        due("bird(1)", y.bird(1), 0);
        due("part(1)", y.part(1), 0);
        due("bird(1)", y.bird(1), 1);
        due("bird(2)", y.bird(2), 0);
    }

    private static void catching() {
        promise = 8;
        BirdBook x = new BirdBook();
        due("day -1", read(x, 0, 1, 1, 1, 1).caught(-1, 1f), -2);
        due("day 14601", read(x, 0, 1, 1, 1, 1).caught(14601, 1f), -2);
        due("weight below 0", read(x, 0, 1, 1, 1, 1).caught(1, -0.125f), -2);
        due("weight above 4000", read(x, 0, 1, 1, 1, 1).caught(1, 4000.125f), -2);
        due("no end of weight", read(x, 0, 1, 1, 1, 1).caught(1, Float.POSITIVE_INFINITY), -2);
        due("-2 ahead of -3", x.caught(1, -1f), -2);
        due("three SIGNS", read(x, 0, 1, 1, 1).caught(1, 1f), -3);
        read(x, 1, 1);
        due("two HALVES", read(x, 0, 1, 1, 1, 1).caught(1, 1f), -3);
        due("HALF 1 alone", read(x, 1, 1, 1, 1, 1).caught(1, 1f), -3);
        due("weight 0", read(x, 0, 1, 1, 1, 1).caught(0, 0f), 0);
        due("weight 4000", read(x, 0, 1, 1, 1, 1).caught(14600, 4000f), 1);
        due("weight 12.875", read(x, 0, 1, 1, 1, 1).caught(1, 12.875f), 2);
        due("record(0, 2)", x.record(0, 2), 0);
        due("record(1, 2)", x.record(1, 2), 40000);
        due("record(2, 2)", x.record(2, 2), 128);
        // The document leaves these two open: a weight written in tenths keeps them, and what is no number is no weight.
        due("weight 0.7", read(x, 0, 1, 1, 1, 1).caught(1, 0.7f), 3);
        due("record(3, 2)", x.record(3, 2), 7);
        due("no number", read(x, 0, 1, 1, 1, 1).caught(1, Float.NaN), -2);
        for (int i = 4; i < 300; i++) {
            x.note(i);
        }
        due("-3 ahead of -8", read(x, 0, 1).caught(1, 1f), -3);
        due("301st", caught(x, 1, 1), -8);
        due("301st SIGHT", sight(x, 1, 1), -8);
        due("301st FOUND", found(x, 1, 1), -8);
        read(x, 1, 1);
        due("301st PAIR", read(x, 0, 1).pair(1), -8);
        due("301st NOTE", x.note(1), -8);
        plainRing(x, 1, NONE, 1);
        due("301st NEST, -8 ahead of -5", nest(x, 1, 0, 5, 6), -8);
        due("RECORDS", x.count(1), 300);
    }

    private static void sighting() {
        promise = 9;
        BirdBook x = new BirdBook();
        ring(x, 10, NONE, 1, 2, 3, 4);
        due("day -1", sight(x, -1, 1), -2);
        due("-2 ahead of -3", x.sight(14601), -2);
        due("nothing read", x.sight(1), -3);
        read(x, 1, 1);
        due("two HALVES", sight(x, 1, 1), -3);
        due("one SIGN", sight(x, 10, NONE, NONE, NONE, 4), 0);
        due("fits", x.fits(0, 0), 1);
        due("one other SIGN alone", x.fits(sight(x, 10, NONE, NONE, NONE, 5), 0), 0);
        due("one other SIGN of two", x.fits(sight(x, 10, NONE, NONE, 3, 5), 0), 1);
        due("two other SIGNS of four", x.fits(sight(x, 10, 1, 2, 7, 5), 0), 0);
        due("one other SIGN of four", x.fits(sight(x, 10, 9, 2, 3, 4), 0), 1);
        due("PUT behind that DAY", x.fits(sight(x, 9, 1, 2, 3, 4), 0), 0);
        due("KIND", x.record(0, 0), 1);
    }

    private static void pairing() {
        promise = 10;
        BirdBook x = new BirdBook();
        ring(x, 10, NONE, 1, 2, 3, 4);
        ring(x, 10, NONE, 5, 6, 7, 8);
        due("-2 ahead of -3", x.pair(-1), -2);
        due("HALF 0 alone", read(x, 0, 1).pair(1), -3);
        due("HALF 1 alone", read(x, 1, 1).pair(1), -3);
        read(x, 1, 5, 6, 9, 8);
        due("both", read(x, 0, NONE, 2).pair(14600), 0);
        due("KIND", x.record(0, 0), 2);
        due("who(0, 0, 0)", x.who(0, 0, 0), 0);
        due("who(0, 1, 0)", x.who(0, 1, 0), 1);
        due("fits(0, 2)", x.fits(0, 2), -2);
        read(x, 1, 1);
        due("both of one BIRD are fine", read(x, 0, 1).pair(20), 1);
    }

    private static void nesting() {
        promise = 11;
        BirdBook x = new BirdBook();
        x.rule(0, 14600);
        ring(x, 0, NONE, 1, 1, 1, 1);
        ring(x, 0, NONE, 2, 2, 2, 2);
        ring(x, 0, NONE, 2, 2, 2, 3);
        ring(x, 5, NONE, 4, 4, 4, 4);
        due("day", nest(x, -1, 3, 1, 4), -2);
        due("no such young", nest(x, 5, 4, 1, 4), -2);
        due("young -1", nest(x, 5, -1, 1, 4), -2);
        due("-2 ahead of -3", x.nest(5, 4), -2);
        due("one HALF", read(x, 0, 1, 1, 1, 1).nest(5, 3), -3);
        due("a HALF that FITS two", nest(x, 5, 3, 1, 2), -5);
        due("a HALF that FITS none", nest(x, 5, 3, 1, 9), -5);
        due("-5 ahead of -4", nest(x, 5, 3, 2, 2), -5);
        due("both FIT one", nest(x, 5, 3, 1, 1), -4);
        due("not PUT as of that DAY", nest(x, 4, 0, 1, 4), -5);
        due("-4 ahead of -9", nest(x, 5, 3, 4, 4), -4);
        due("the young is a PARENT", nest(x, 5, 3, 1, 4), -9);
        due("no RECORD", x.count(1), 0);
        due("the PARENT is born behind the young", nest(x, 5, 0, 4, 1), -9);
        found(x, 20, 4);
        due("dead ahead of that", nest(x, 21, 3, 1, 4), -5);
        read(x, 0, 1, NONE, NONE, NONE);
        read(x, 1, NONE, NONE, NONE, 2);
        due("in part", x.nest(10, 3), 1);
        due("told 0", x.record(1, 4), 0);
        due("told 1", x.record(1, 5), 1);
        due("young", x.record(1, 3), 3);
        due("KIND", x.record(1, 0), 3);
        tellingForGood();
    }

    private static void tellingForGood() {
        BirdBook x = new BirdBook();
        x.rule(0, 14600);
        ring(x, 0, NONE, 1, 1, 1, 1);
        ring(x, 10, NONE, 1, 2, 3, 4);
        ring(x, 0, NONE, 9, 9, 9, 9);
        ring(x, 20, NONE, 7, 7, 7, 7);
        x.lose(0, 10);
        x.join(0, 1);
        read(x, 0, 1);
        due("RING 0 was not lost ahead of 10", read(x, 1, 9).nest(10, 3), 0);
        due("the least RING", x.record(0, 4), 0);
        read(x, 0, 1);
        due("RING 0 was lost ahead of 11", read(x, 1, 9).nest(11, 3), 1);
        due("the other RING", x.record(1, 4), 1);
        due("parent(3, 0)", x.parent(3, 0), 0);
        due("parent(3, 1)", x.parent(3, 1), 2);
        due("parent(3, 2)", x.parent(3, 2), NONE);
        x.part(0);
        due("told for good", x.record(1, 4), 1);
        due("parent(3, 0)", x.parent(3, 0), 0);
        due("parent(3, 1)", x.parent(3, 1), 1);
        due("parent(3, 2)", x.parent(3, 2), 2);
    }

    private static void finding() {
        promise = 12;
        BirdBook x = new BirdBook();
        due("-2 ahead of -3", x.found(-1), -2);
        due("three SIGNS", read(x, 0, 1, 1, 1).found(1), -3);
        read(x, 1, 1);
        due("two HALVES", found(x, 1, 1), -3);
        due("a FOUND of no RING", found(x, 30, 1), 0);
        due("KIND", x.record(0, 0), 4);
        due("fits", x.fits(0, 0), 0);
        plainRing(x, 10, NONE, 1);
        due("now it is one's", x.death(0), 30);
        due("fits", x.fits(0, 0), 1);
        due("another one", found(x, 20, 1), 1);
        due("the first DAY", x.death(0), 20);
        due("the later one FITS no more", x.fits(0, 0), 0);
        due("the first one FITS", x.fits(1, 0), 1);
        due("ahead of PUT", found(x, 9, 1), 2);
        due("death", x.death(0), 20);
        plainRing(x, 25, NONE, 2);
        x.lose(0, 20);
        due("join", x.join(0, 1), -5);
    }

    private static void noting() {
        promise = 13;
        BirdBook x = new BirdBook();
        due("note", x.note(Long.MIN_VALUE), 0);
        due("note", x.note(5), 1);
        due("KIND", x.record(0, 0), 5);
        due("DAY", x.record(0, 1), NONE);
        due("HALVES", x.record(0, 6), 0);
        due("fits", x.fits(0, 0), -2);
        due("list", x.list(0, 0), -2);
        for (int i = 2; i < 300; i++) {
            due("note", x.note(i), i);
        }
        due("301st", x.note(300), -8);
    }

    private static void fitting() {
        BirdBook x = new BirdBook();
        ring(x, 10, NONE, 1, 2, 3, 4);
        ring(x, 10, NONE, 1, 2, 3, 5);
        ring(x, 20, NONE, 1, 6, 6, 6);
        sight(x, 20, 1);
        promise = 14;
        due("fits(0, 0)", x.fits(0, 0), 3);
        due("fits(-1, 0)", x.fits(-1, 0), -2);
        due("fits(1, 0)", x.fits(1, 0), -2);
        due("fits(0, -1)", x.fits(0, -1), -2);
        due("fits(0, 1)", x.fits(0, 1), -2);
        promise = 15;
        due("who(0, 0, 2)", x.who(0, 0, 2), 2);
        due("who(0, 0, 3)", x.who(0, 0, 3), NONE);
        due("who(0, 0, -1)", x.who(0, 0, -1), NONE);
        due("who(0, 1, 0)", x.who(0, 1, 0), NONE);
        due("who(7, 0, 0)", x.who(7, 0, 0), NONE);
        x.lose(0, 20);
        x.join(0, 2);
        promise = 14;
        due("two RINGS of one BIRD", x.fits(0, 0), 2);
        promise = 15;
        due("who(0, 0, 1)", x.who(0, 0, 1), 1);
        read(x, 0, 1, 2, 3, 5).found(19);
        promise = 14;
        due("one dead ahead of that DAY", x.fits(0, 0), 1);
        promise = 16;
        int near = sight(x, 20, 1, 6, 3, 5);
        due("a dead BIRD's RING is nearest", x.nearest(near, 0), 1);
        due("of several the least", x.nearest(sight(x, 20, 1, 2), 0), 0);
        due("LOST or not", x.nearest(sight(x, 30, NONE, NONE, NONE, 4), 0), 0);
        due("PUT by then", x.nearest(sight(x, 19, 1, 6, 6, 6), 0), 0);
        due("no such RING", x.nearest(sight(x, 9, 1), 0), NONE);
        due("no such HALF", x.nearest(near, 1), NONE);
        due("no such RECORD", x.nearest(99, 0), NONE);
        due("no such RECORD", x.nearest(-1, 0), NONE);
        due("a NOTE", x.nearest(x.note(1), 0), NONE);
    }

    private static void birdsAndDeaths() {
        BirdBook x = new BirdBook();
        plainRing(x, 10, NONE, 1);
        plainRing(x, 5, NONE, 2);
        plainRing(x, 20, NONE, 3);
        x.lose(1, 8);
        x.lose(0, 15);
        x.join(1, 0);
        promise = 17;
        due("the NUMBER is the least RING", x.bird(1), 0);
        due("bird(-1)", x.bird(-1), NONE);
        due("bird(3)", x.bird(3), NONE);
        promise = 18;
        due("a FOUND ahead of a later RING", found(x, 8, 2), 0);
        due("does not COUNT", x.death(0), NONE);
        due("and FITS none", x.fits(0, 0), 0);
        due("found", found(x, 12, 1), 1);
        due("death(1)", x.death(1), 12);
        due("death(2)", x.death(2), NONE);
        due("death(3)", x.death(3), NONE);
        due("death(-1)", x.death(-1), NONE);
        due("BIRDS with a DEATH", x.count(4), 1);
        due("on the DEATH it FITS", x.fits(caught(x, 12, 1), 0), 1);
        due("behind it not", x.fits(caught(x, 13, 1), 0), 0);
        x.part(0);
        due("now it COUNTS", x.death(1), 8);
        due("two dead", x.count(4), 2);
        due("dead ahead of the PUT", x.join(1, 0), -5);
    }

    private static void living() {
        promise = 19;
        BirdBook x = new BirdBook();
        x.rule(0, 100);
        plainRing(x, 200, NONE, 1);
        plainRing(x, 200, 150, 2);
        ring(x, 200, NONE, 2, 2, 2, 3);
        due("alive(0, 99)", x.alive(0, 99), 0);
        due("alive(0, 100)", x.alive(0, 100), 2);
        due("alive(0, 199)", x.alive(0, 199), 2);
        due("alive(0, 200)", x.alive(0, 200), 1);
        due("alive(0, 201)", x.alive(0, 201), 2);
        due("alive(0, 300)", x.alive(0, 300), 2);
        due("alive(0, 301)", x.alive(0, 301), 0);
        due("alive(1, 149)", x.alive(1, 149), 0);
        due("alive(1, 150)", x.alive(1, 150), 1);
        due("alive(1, 201)", x.alive(1, 201), 2);
        due("alive(1, 250)", x.alive(1, 250), 2);
        due("alive(1, 251)", x.alive(1, 251), 0);
        sight(x, 230, 2, 2);
        due("a SIGHT that is not SURE", x.alive(1, 220), 2);
        caught(x, 220, 2);
        due("a CATCH that is", x.alive(1, 220), 1);
        due("and no later", x.alive(1, 221), 2);
        read(x, 0, 1);
        read(x, 1, 2).pair(240);
        due("one HALF of a PAIR is SURE", x.alive(0, 240), 1);
        due("the other one not", x.alive(1, 240), 2);
        found(x, 260, 1);
        due("a FOUND is no sight", x.alive(0, 241), 2);
        due("alive(0, 259)", x.alive(0, 259), 2);
        due("on its DEATH", x.alive(0, 260), 0);
        due("alive(3, 1)", x.alive(3, 1), NONE);
        due("alive(-1, 1)", x.alive(-1, 1), NONE);
        due("alive(0, -1)", x.alive(0, -1), NONE);
        due("alive(0, 14601)", x.alive(0, 14601), NONE);
        caught(x, 290, 2);
        due("seen behind GREATEST", x.alive(1, 250), 1);
        due("seen behind GREATEST", x.alive(1, 251), 0);
        livingWithTwoRings();
    }

    private static void livingWithTwoRings() {
        BirdBook x = new BirdBook();
        x.rule(0, 100);
        plainRing(x, 200, NONE, 1);
        plainRing(x, 240, 150, 2);
        x.lose(0, 210);
        due("the loss is no sight", x.alive(0, 210), 2);
        x.join(0, 1);
        due("up to the last PUT", x.alive(0, 240), 1);
        due("HATCHED by the other RING", x.alive(0, 150), 1);
        due("ahead of it", x.alive(0, 149), 0);
        due("GREATEST from it on", x.alive(0, 251), 0);
    }

    private static void kin() {
        BirdBook x = new BirdBook();
        x.rule(10, 14600);
        for (int sign = 0; sign < 6; sign++) {
            plainRing(x, 10 * sign, NONE, sign);
        }
        nest(x, 60, 2, 1, 0);
        nest(x, 60, 4, 3, 2);
        promise = 20;
        due("by NUMBERS", x.parent(2, 0), 0);
        due("by NUMBERS", x.parent(2, 1), 1);
        due("parent(2, 2)", x.parent(2, 2), NONE);
        due("parent(2, -1)", x.parent(2, -1), NONE);
        due("parent(5, 0)", x.parent(5, 0), NONE);
        due("parent(6, 0)", x.parent(6, 0), NONE);
        due("parent(-1, 0)", x.parent(-1, 0), NONE);
        nest(x, 60, 4, 0, 2);
        due("of two NESTS", x.parent(4, 0), 0);
        due("of two NESTS", x.parent(4, 2), 3);
        promise = 21;
        due("a PARENT", x.forebear(2, 4), true);
        due("a PARENT's PARENT", x.forebear(1, 4), true);
        due("not the other way", x.forebear(4, 1), false);
        due("not itself", x.forebear(4, 4), false);
        due("no kin", x.forebear(5, 4), false);
        due("no such RING", x.forebear(6, 4), false);
        due("no such RING", x.forebear(1, -1), false);
        x.lose(4, 45);
        due("join", x.join(4, 5), 0);
        due("by the JOIN", x.forebear(1, 5), true);
        x.part(0);
        due("PARTED", x.forebear(1, 5), false);
    }

    private static void longKin() {
        promise = 21;
        BirdBook x = new BirdBook();
        x.rule(0, 14600);
        for (int sign = 0; sign < 24; sign++) {
            plainRing(x, 0, NONE, sign);
        }
        for (int i = 0; i < 21; i++) {
            nest(x, 0, 20 - i, 22 - i, 21 - i);
        }
        due("a long chain", x.forebear(22, 0), true);
        due("none of it the other way", x.forebear(0, 22), false);
        promise = 11;
        due("the last would close it", nest(x, 0, 22, 0, 23), -9);
    }

    private static void listing() {
        promise = 22;
        BirdBook x = new BirdBook();
        plainRing(x, 10, NONE, 1);
        plainRing(x, 10, NONE, 2);
        read(x, 0, 1);
        read(x, 1, 2).pair(20);
        sight(x, 20, 9);
        due("list(-1, 0)", x.list(-1, 0), -2);
        due("list(2, 0)", x.list(2, 0), -2);
        due("list(0, 2)", x.list(0, 2), -2);
        due("FITS none", x.list(1, 0), -5);
        due("list(0, 1)", x.list(0, 1), 1);
        due("the other HALF", x.list(0, 0), -4);
        for (int i = 2; i < 18; i++) {
            sight(x, 20, 1);
            due("list(" + i + ", 0)", x.list(i, 0), i == 17 ? -8 : i);
        }
        due("-4 ahead of -8", x.list(0, 0), -4);
        due("-5 ahead of -8", x.list(1, 0), -5);
        due("the LIST", x.count(5), 16);
        x.lose(1, 15);
        due("-5 ahead of -4", x.list(0, 1), -5);
        promise = 23;
        due("empty()", x.empty(), 16);
        due("empty() again", x.empty(), 0);
        due("the LIST", x.count(5), 0);
        due("listed anew", x.list(0, 0), 1);
    }

    /** Of RINGS 0 to 3, HALF by HALF: {0, 1}, {1, 2}, {2, 3}, {3}. */
    private static BirdBook chain() {
        BirdBook x = new BirdBook();
        ring(x, 0, NONE, 1, 9, 9, 9);
        ring(x, 0, NONE, 1, 2, 8, 8);
        ring(x, 0, NONE, 7, 2, 3, 7);
        ring(x, 0, NONE, 6, 6, 3, 4);
        sight(x, 1, 1);
        sight(x, 1, NONE, 2);
        sight(x, 1, NONE, NONE, 3);
        sight(x, 1, NONE, NONE, NONE, 4);
        return x;
    }

    private static void giving() {
        BirdBook x = chain();
        promise = 24;
        due("least()", x.least(), 0);
        promise = 25;
        due("most()", x.most(), 0);
        promise = 26;
        due("given(0)", x.given(0), NONE);
        for (int i = 0; i < 4; i++) {
            x.list(i, 0);
        }
        promise = 24;
        due("least()", x.least(), 2);
        promise = 25;
        due("most()", x.most(), 4);
        promise = 26;
        int[] want = {1, 1, 3, 3};
        for (int i = 0; i < 4; i++) {
            due("given(" + i + ")", x.given(i), want[i]);
        }
        due("given(4)", x.given(4), NONE);
        due("given(-1)", x.given(-1), NONE);
        BirdBook y = chain();
        y.list(3, 0);
        y.list(2, 0);
        y.list(0, 0);
        int[] least = {3, 3, 0};
        for (int i = 0; i < 3; i++) {
            due("from the first HALF on: given(" + i + ")", y.given(i), least[i]);
        }
        y.lose(3, 0);
        promise = 24;
        due("a HALF FITS none any more", y.least(), NONE);
        promise = 25;
        due("a HALF FITS none any more", y.most(), NONE);
        promise = 26;
        due("a HALF FITS none any more", y.given(1), NONE);
        due("the LIST stays", y.count(5), 3);
        BirdBook z = chain();
        z.list(2, 0);
        z.list(1, 0);
        z.list(0, 0);
        promise = 26;
        int[] given = {2, 1, 1};
        due("a small BIRD first, if the number allows", z.given(0), given[0]);
        due("though that of before would do", z.given(1), given[1]);
        due("z", z.given(2), given[2]);
    }

    private static void numbersThere() {
        promise = 27;
        BirdBook x = new BirdBook();
        for (int sign = 0; sign < 5; sign++) {
            plainRing(x, sign, NONE, sign);
        }
        due("n", x.there(3, 10, 20, 0), 4);
        found(x, 9, 0);
        found(x, 10, 1);
        due("dead ahead of b", x.there(3, 10, 20, 0), 3);
        caught(x, 9, 2);
        caught(x, 10, 2);
        caught(x, 20, 3);
        caught(x, 21, 4);
        caught(x, 15, 9);
        sight(x, 15, 4, 4, 4, 4);
        due("c", x.there(3, 10, 20, 1), 2);
        due("a RING PUT on b to e", x.there(1, 4, 8, 1), 1);
        due("r", x.there(3, 10, 20, 2), 2);
        due("N", x.there(3, 10, 20, 3), 3);
        due("c up to 21", x.there(3, 10, 21, 1), 3);
        due("r up to 21", x.there(3, 10, 21, 2), 2);
        due("cut down: 3 * 3 / 2", x.there(3, 10, 21, 3), 4);
        due("r 0: n + c", x.there(2, 11, 12, 3), 1);
        due("r 0 with c", x.there(0, 3, 4, 3), 3);
        due("what -1", x.there(3, 10, 20, -1), NONE);
        due("what 4", x.there(3, 10, 20, 4), NONE);
        due("a is none", x.there(-1, 10, 20, 0), NONE);
        due("b is none", x.there(3, 14601, 20, 0), NONE);
        due("e is none", x.there(3, 10, 14601, 0), NONE);
        due("b is not behind a", x.there(10, 10, 20, 0), NONE);
        due("e ahead of b", x.there(3, 10, 9, 0), NONE);
        due("e is b", x.there(3, 10, 10, 1), 1);
        BirdBook y = new BirdBook();
        plainRing(y, 1, NONE, 0);
        plainRing(y, 10, NONE, 1);
        y.lose(0, 5);
        y.join(0, 1);
        due("one BIRD by its JOIN", y.there(5, 10, 10, 0), 1);
        due("ringed anew", y.there(5, 10, 10, 2), 1);
    }

    private static void spans() {
        BirdBook x = new BirdBook();
        promise = 28;
        due("low(1, 1, 1, 1, 2)", x.low(1, 1, 1, 1, 2), 1);
        due("low(2, 2, 1, 5, 6)", x.low(2, 2, 1, 5, 6), 4);
        due("none such", x.low(2, 2, 1, 999, 1000), NONE);
        due("just as many", x.low(1, 1, 0, 499, 500), 500);
        due("not so many", x.low(1, 1, 0, 500, 501), NONE);
        due("low(40, 40, 0, 1, 2)", x.low(40, 40, 0, 1, 2), NONE);
        due("n 0", x.low(0, 1, 0, 1, 2), NONE);
        due("n 41", x.low(41, 1, 0, 1, 2), NONE);
        due("c 0", x.low(1, 0, 0, 1, 2), NONE);
        due("c 41", x.low(1, 41, 0, 1, 2), NONE);
        due("r -1", x.low(1, 1, -1, 1, 2), NONE);
        due("r above n", x.low(2, 3, 3, 1, 2), NONE);
        due("r above c", x.low(3, 2, 3, 1, 2), NONE);
        due("den 1", x.low(1, 1, 1, 0, 1), NONE);
        due("den 1001", x.low(1, 1, 1, 1, 1001), NONE);
        due("num 0", x.low(1, 1, 1, 0, 2), NONE);
        due("num den", x.low(1, 1, 1, 2, 2), NONE);
        promise = 29;
        due("high(1, 1, 1, 1, 2)", x.high(1, 1, 1, 1, 2), 2);
        due("high(1, 1, 0, 1, 2)", x.high(1, 1, 0, 1, 2), 500);
        due("high(2, 2, 1, 1, 2)", x.high(2, 2, 1, 1, 2), 7);
        due("none such", x.high(2, 2, 1, 999, 1000), NONE);
        due("n 0", x.high(0, 1, 0, 1, 2), NONE);
        due("den 1001", x.high(1, 1, 1, 1, 1001), NONE);
        due("num -1", x.high(1, 1, 1, -1, 2), NONE);
        spansAllOver();
    }

    /** Every n and c that are far apart, every fourth r, and shares from the least to the greatest. */
    private static void spansAllOver() {
        PlainBook plain = new PlainBook();
        int[] parts = {1, 2, 3, 7, 20, 39, 40};
        int[][] shares = {{1, 1000}, {1, 40}, {1, 2}, {501, 1000}, {999, 1000}};
        for (int n : parts) {
            for (int c : parts) {
                for (int r = 0; r <= Math.min(n, c); r += r < 3 ? 1 : 4) {
                    BirdBook x = new BirdBook();
                    for (int[] share : shares) {
                        String with = "(" + n + ", " + c + ", " + r + ", " + share[0] + ", " + share[1] + ")";
                        promise = 28;
                        due("low" + with, x.low(n, c, r, share[0], share[1]), plain.low(n, c, r, share[0], share[1]));
                        promise = 29;
                        due("high" + with, x.high(n, c, r, share[0], share[1]), plain.high(n, c, r, share[0], share[1]));
                    }
                }
            }
        }
    }

    private static void records() {
        promise = 30;
        BirdBook x = new BirdBook();
        x.rule(0, 14600);
        plainRing(x, 0, NONE, 1);
        plainRing(x, 0, NONE, 2);
        plainRing(x, 5, NONE, 3);
        read(x, 0, 1, 2, 3, 4).caught(7, 2.5f);
        sight(x, 8, NONE, 99);
        read(x, 0, NONE, NONE, 6);
        read(x, 1, 7).pair(9);
        nest(x, 10, 2, 2, 1);
        found(x, 11, 50);
        x.note(77);
        int[][] want = {
            {0, 7, 25, NONE, NONE, NONE, 1}, {1, 8, NONE, NONE, NONE, NONE, 1}, {2, 9, NONE, NONE, NONE, NONE, 2},
            {3, 10, NONE, 2, 1, 0, 2}, {4, 11, NONE, NONE, NONE, NONE, 1}, {5, NONE, NONE, NONE, NONE, NONE, 0}};
        int[][] signs = {
            {1, 2, 3, 4, NONE, NONE, NONE, NONE}, {NONE, 99, NONE, NONE, NONE, NONE, NONE, NONE},
            {NONE, NONE, 6, NONE, 7, NONE, NONE, NONE}, {2, 2, 2, 2, 1, 1, 1, 1},
            {50, 50, 50, 50, NONE, NONE, NONE, NONE}, {NONE, NONE, NONE, NONE, NONE, NONE, NONE, NONE}};
        for (int record = 0; record < want.length; record++) {
            for (int what = 0; what < 7; what++) {
                due("record(" + record + ", " + what + ")", x.record(record, what), want[record][what]);
            }
            for (int at = 0; at < 8; at++) {
                due("record(" + record + ", " + (10 + at) + ")", x.record(record, 10 + at), signs[record][at]);
            }
            for (int what : new int[] {-1, 7, 8, 9, 18, 19, Integer.MIN_VALUE, Integer.MAX_VALUE}) {
                due("record(" + record + ", " + what + ")", x.record(record, what), NONE);
            }
        }
        due("record(-1, 0)", x.record(-1, 0), NONE);
        due("record(6, 0)", x.record(6, 0), NONE);
        promise = 31;
        due("noted(5)", x.noted(5), 77);
        due("noted(0)", x.noted(0), 0);
        due("noted(-1)", x.noted(-1), 0);
        due("noted(6)", x.noted(6), 0);
        due("noted", x.noted(x.note(Long.MIN_VALUE)), Long.MIN_VALUE);
        read(x, 0, 1, 2, 3, 4);
        x.note(1);
        promise = 30;
        due("a NOTE has nothing of the READING", x.record(7, 10), NONE);
    }

    private static void rows() {
        BirdBook x = new BirdBook();
        promise = 32;
        due("watch(-1, 0, 1)", x.watch(-1, 0, 1), -2);
        due("watch(200, 0, 1)", x.watch(200, 0, 1), -2);
        due("watch(0, -1, 1)", x.watch(0, -1, 1), -2);
        due("watch(0, 4, 1)", x.watch(0, 4, 1), -2);
        due("watch(0, 0, 101)", x.watch(0, 0, 101), -2);
        due("-2 ahead of -3", x.watch(200, 0, -1), -2);
        due("watch(0, 0, -1)", x.watch(0, 0, -1), -3);
        due("refused: no ROW", x.tally(0, 0, 1), -5);
        due("watch(0, 0, 100)", x.watch(0, 0, 100), 0);
        due("watch(199, 3, 0)", x.watch(199, 3, 0), 0);
        promise = 34;
        due("tally(0, 99, 5)", x.tally(0, 99, 5), 0);
        due("tally(0, 100, 5)", x.tally(0, 100, 5), -6);
        due("tally(0, -1, 5)", x.tally(0, -1, 5), -6);
        due("tally(-1, 0, 5)", x.tally(-1, 0, 5), -2);
        due("tally(200, 0, 5)", x.tally(200, 0, 5), -2);
        due("tally(1, 0, 5)", x.tally(1, 0, 5), -5);
        due("tally(199, 0, 5)", x.tally(199, 0, 5), -6);
        promise = 35;
        due("tallied(0, 99)", x.tallied(0, 99), 5);
        due("tallied(0, 100)", x.tallied(0, 100), 0);
        due("tallied(0, -1)", x.tallied(0, -1), 0);
        due("tallied(-1, 0)", x.tallied(-1, 0), 0);
        due("tallied(200, 0)", x.tallied(200, 0), 0);
        due("tallied(1, 0)", x.tallied(1, 0), 0);
        promise = 32;
        x.watch(0, 0, 100);
        due("in place of another one, all 0", x.tallied(0, 99), 0);
        promise = 33;
        due("tear(0)", x.tear(0), true);
        due("tear(0) again", x.tear(0), false);
        due("tear(199), of no numbers", x.tear(199), true);
        due("tear(-1)", x.tear(-1), false);
        due("tear(200)", x.tear(200), false);
        due("tally where torn", x.tally(0, 0, 1), -5);
        widths();
    }

    private static void widths() {
        promise = 34;
        BirdBook x = new BirdBook();
        long[] greatest = {Byte.MAX_VALUE, Short.MAX_VALUE, Integer.MAX_VALUE, Long.MAX_VALUE};
        for (int width = 0; width < 4; width++) {
            x.watch(width, width, 2);
            x.tally(width, 0, greatest[width]);
            due("the greatest", x.tallied(width, 0), greatest[width]);
            x.tally(width, 0, 1);
            due("one more", x.tallied(width, 0), -greatest[width] - 1);
            x.tally(width, 0, -1);
            due("one less", x.tallied(width, 0), greatest[width]);
            due("its neighbour", x.tallied(width, 1), 0);
        }
        x.tally(0, 1, 0x1234567890abcdefL);
        due("cut to a byte", x.tallied(0, 1), (byte) 0xef);
        x.tally(1, 1, 0x1234567890abcdefL);
        due("cut to a short", x.tallied(1, 1), (short) 0xcdef);
        x.tally(2, 1, 0x1234567890abcdefL);
        due("cut to an int", x.tallied(2, 1), 0x90abcdef);
        x.tally(3, 1, 0x1234567890abcdefL);
        due("whole", x.tallied(3, 1), 0x1234567890abcdefL);
    }

    private static void copying() {
        promise = 36;
        BirdBook x = new BirdBook();
        x.watch(0, 1, 6);
        x.watch(1, 1, 4);
        x.watch(2, 2, 6);
        for (int i = 0; i < 6; i++) {
            x.tally(0, i, i + 1);
        }
        due("no such DAY", x.copy(-1, 0, 1, 0, 1), -2);
        due("no such DAY", x.copy(0, 0, 200, 0, 1), -2);
        due("-2 ahead of -5", x.copy(3, 0, 200, 0, 1), -2);
        due("no ROW", x.copy(3, 0, 1, 0, 1), -5);
        due("no ROW", x.copy(0, 0, 3, 0, 1), -5);
        due("another WIDTH", x.copy(0, 0, 2, 0, 1), -7);
        due("-7 ahead of -6", x.copy(0, -1, 2, 0, 1), -7);
        due("i -1", x.copy(0, -1, 1, 0, 1), -6);
        due("j -1", x.copy(0, 0, 1, -1, 1), -6);
        due("n -1", x.copy(0, 0, 1, 0, -1), -6);
        due("the one has not so many", x.copy(0, 4, 1, 0, 3), -6);
        due("the other has not so many", x.copy(0, 0, 1, 2, 3), -6);
        due("far too many", x.copy(0, 1, 1, 1, Integer.MAX_VALUE), -6);
        due("far behind its end", x.copy(0, Integer.MAX_VALUE, 1, 0, 1), -6);
        due("nothing at the ends", x.copy(0, 6, 1, 4, 0), 0);
        due("two", x.copy(0, 4, 1, 1, 2), 0);
        due("behind them", x.tallied(1, 3), 0);
        due("the first", x.tallied(1, 1), 5);
        due("the second", x.tallied(1, 2), 6);
        due("ahead of them", x.tallied(1, 0), 0);
        due("up in its own ROW", x.copy(0, 0, 0, 2, 4), 0);
        long[] up = {1, 2, 1, 2, 3, 4};
        for (int i = 0; i < 6; i++) {
            due("tallied(0, " + i + ")", x.tallied(0, i), up[i]);
        }
        due("down in its own ROW", x.copy(0, 3, 0, 1, 3), 0);
        long[] down = {1, 2, 3, 4, 3, 4};
        for (int i = 0; i < 6; i++) {
            due("tallied(0, " + i + ")", x.tallied(0, i), down[i]);
        }
    }

    private static void counting() {
        promise = 37;
        BirdBook x = new BirdBook();
        ring(x, 10, 4, 1, 2, 3, 99);
        ring(x, 20, NONE, 5, 6, 7, 8);
        ring(x, 20, NONE, 5, 6, 9, 9);
        x.lose(0, 15);
        x.join(0, 1);
        read(x, 0, 5, 6, 7, 8).found(30);
        x.list(0, 0);
        int[] want = {3, 1, 1, 2, 1, 1, NONE, NONE, NONE, NONE,
            10, 4, 15, 1, 2, 3, 99, NONE, NONE, NONE, 20, NONE, NONE, 5, 6, 7, 8, NONE, NONE, NONE};
        for (int what = 0; what < want.length; what++) {
            due("count(" + what + ")", x.count(what), want[what]);
        }
        due("count(-1)", x.count(-1), NONE);
        due("count(40)", x.count(40), NONE);
        due("count(MAX)", x.count(Integer.MAX_VALUE), NONE);
        due("count(MIN)", x.count(Integer.MIN_VALUE), NONE);
        x.part(0);
        due("PARTED ones, too", x.count(2), 1);
        due("BIRDS", x.count(3), 3);
    }

    public static void main(String[] args) {
        newObject();
        rule();
        reading();
        ringing();
        losing();
        joining();
        parting();
        catching();
        sighting();
        pairing();
        nesting();
        finding();
        noting();
        fitting();
        birdsAndDeaths();
        living();
        kin();
        longKin();
        listing();
        giving();
        numbersThere();
        spans();
        records();
        rows();
        copying();
        counting();
        System.out.println(wrong == 0 ? "all promises are kept" : wrong + " answers are not as due");
        if (wrong != 0) {
            System.exit(1);
        }
    }
}
