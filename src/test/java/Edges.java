import java.util.ArrayList;
import java.util.List;

/**
 * What the tests of the edges share. Each of them tells first the sentence of the document that it holds the class to.
 * A book is told as steps, so that it can be made anew for each question and none is asked more than 512 calls.
 */
abstract class Edges {
    static final int NONE = BirdBook.NONE;
    static final int LEAST_INT = Integer.MIN_VALUE;
    static final int GREATEST_INT = Integer.MAX_VALUE;
    /** What is no DAY: just outside of them, and as far off as can be. */
    static final int[] NO_DAYS = {LEAST_INT, -2, -1, 14601, GREATEST_INT};

    private static final int QUESTIONS_TO_A_BOOK = 80;
    private static final int[] ROW_DAYS = {0, 1, 2, 3, 5, 199};
    private static final long ALL_WIDTHS = 1L << 40 | 1L << 20 | 1L << 10 | 3L;

    private static String sentence = "";
    private static int wrong = 0;

    interface Setup {
        void on(BirdBook x);
    }

    interface Call {
        long on(BirdBook x);
    }

    /** The sentence of the document that is tested from here on, word by word. */
    static void says(String words) {
        sentence = words;
    }

    static void due(String call, long got, long want) {
        if (got != want) {
            wrong++;
            System.out.println("\"" + sentence + "\" " + call + " answered " + got + ", due is " + want);
        }
    }

    static void due(String call, boolean got, boolean want) {
        due(call, got ? 1 : 0, want ? 1 : 0);
    }

    static void end(String what) {
        System.out.println(wrong == 0 ? what + " are as due" : wrong + " answers are not as due");
        if (wrong != 0) {
            System.exit(1);
        }
    }

    // ---- steps

    /** Reads SIGNS from LEG 0 on; NONE for what was not read. */
    static BirdBook read(BirdBook x, int half, int... signs) {
        for (int leg = 0; leg < signs.length; leg++) {
            x.read(half, leg, signs[leg]);
        }
        return x;
    }

    static BirdBook unread(BirdBook x) {
        return read(read(x, 0, NONE, NONE, NONE, NONE), 1, NONE, NONE, NONE, NONE);
    }

    static int ring(BirdBook x, int day, int hatched, int... signs) {
        return read(x, 0, signs).ring(day, hatched);
    }

    /** A RING with four times the same SIGN, so that no two of them are alike by one SIGN. */
    static int plainRing(BirdBook x, int day, int hatched, int sign) {
        return ring(x, day, hatched, sign, sign, sign, sign);
    }

    /** Plain RINGS of SIGNS 0 and so on, PUT on these DAYS. */
    static void plainRings(BirdBook x, int... days) {
        for (int sign = 0; sign < days.length; sign++) {
            plainRing(x, days[sign], NONE, sign);
        }
    }

    static int caught(BirdBook x, int day, int sign) {
        return read(x, 0, sign, sign, sign, sign).caught(day, 1f);
    }

    static int found(BirdBook x, int day, int sign) {
        return read(x, 0, sign, sign, sign, sign).found(day);
    }

    static int sight(BirdBook x, int day, int... signs) {
        return read(x, 0, signs).sight(day);
    }

    static int pair(BirdBook x, int day, int[] first, int... second) {
        return read(read(x, 0, first), 1, second).pair(day);
    }

    static int nest(BirdBook x, int day, int young, int sign, int other) {
        read(x, 0, sign, sign, sign, sign);
        return read(x, 1, other, other, other, other).nest(day, young);
    }

    static int[] half(int... signs) {
        return signs;
    }

    static void notes(BirdBook x, int many) {
        for (int i = 0; i < many; i++) {
            x.note(i);
        }
    }

    static BirdBook made(Setup setup) {
        BirdBook x = new BirdBook();
        setup.on(x);
        return x;
    }

    // ---- refused calls

    /** The call is answered so, and changes nothing, not even the READING. */
    static void refused(Setup setup, String call, Call refusedCall, long want) {
        Setup before = x -> {
            setup.on(x);
            x.read(0, 1, 42);
            x.read(1, 2, 43);
        };
        due(call, refusedCall.on(made(before)), want);
        sameBook(call, before, x -> {
            before.on(x);
            refusedCall.on(x);
        });
    }

    /** The call is answered so, and changes nothing, but that nothing is read behind it. */
    static void refusedReading(Setup setup, String call, Call refusedCall, long want) {
        due(call, refusedCall.on(made(setup)), want);
        sameBook(call, x -> {
            setup.on(x);
            unread(x);
        }, x -> {
            setup.on(x);
            refusedCall.on(x);
        });
    }

    private static void sameBook(String call, Setup one, Setup other) {
        String before = sentence;
        says("Each call that is refused gives the first of the refusals told of it, and changes nothing "
                + "(but the READING, as told).");
        sameAnswers(call, one, other);
        says(before);
    }

    private static void sameAnswers(String call, Setup one, Setup other) {
        List<Call> questions = questions(made(one));
        for (int from = 0; from < questions.size(); from += QUESTIONS_TO_A_BOOK) {
            BirdBook x = made(one);
            BirdBook y = made(other);
            for (int i = from; i < Math.min(questions.size(), from + QUESTIONS_TO_A_BOOK); i++) {
                due("question " + i + " behind the refused " + call, questions.get(i).on(y), questions.get(i).on(x));
            }
        }
        List<Call> probes = probes(made(one));
        for (int i = 0; i < probes.size(); i++) {
            due("probe " + i + " behind the refused " + call, probes.get(i).on(made(other)), probes.get(i).on(made(one)));
        }
    }

    /** What can be asked without a change: of each RING and RECORD, on some DAYS, of the LIST and of some ROWS. */
    private static List<Call> questions(BirdBook x) {
        List<Call> all = new ArrayList<>();
        for (int what = 0; what <= 5; what++) {
            int w = what;
            all.add(b -> b.count(w));
        }
        int rings = x.count(0);
        for (int ring = 0; ring < rings; ring++) {
            askOfRing(all, ring, Math.min(rings, 8));
        }
        int records = x.count(1);
        for (int record = 0; record < records; record++) {
            askOfRecord(all, record);
        }
        int listed = x.count(5);
        all.add(BirdBook::least);
        all.add(BirdBook::most);
        for (int i = 0; i < listed; i++) {
            int at = i;
            all.add(b -> b.given(at));
        }
        for (int what = 0; what < 4; what++) {
            int w = what;
            all.add(b -> b.there(20, 21, 100, w));
        }
        for (int day : ROW_DAYS) {
            for (int i = 0; i < 8; i++) {
                int at = i;
                all.add(b -> b.tallied(day, at));
            }
        }
        return all;
    }

    private static void askOfRing(List<Call> all, int ring, int others) {
        for (int what = 0; what < 7; what++) {
            int w = 10 * (ring + 1) + what;
            all.add(b -> b.count(w));
        }
        all.add(b -> b.bird(ring));
        all.add(b -> b.death(ring));
        for (int day : new int[] {0, 5, 10, 20, 50, 100, 1000, 14600}) {
            all.add(b -> b.alive(ring, day));
        }
        for (int i = 0; i < 3; i++) {
            int at = i;
            all.add(b -> b.parent(ring, at));
        }
        for (int other = 0; other < others; other++) {
            int of = other;
            all.add(b -> b.forebear(ring, of) ? 1 : 0);
        }
    }

    private static void askOfRecord(List<Call> all, int record) {
        all.add(b -> b.noted(record));
        for (int what = 0; what < 18; what++) {
            int w = what;
            all.add(b -> b.record(record, w));
        }
        for (int half = 0; half < 2; half++) {
            int h = half;
            all.add(b -> b.fits(record, h));
            all.add(b -> b.who(record, h, 0));
            all.add(b -> b.who(record, h, 1));
            all.add(b -> b.nearest(record, h));
        }
    }

    /** What can be asked only by a change (the READING, PARTED JOINS, what is listed, ROWS), each of a book of its own. */
    private static List<Call> probes(BirdBook x) {
        List<Call> all = new ArrayList<>();
        for (int place = 0; place < 8; place++) {
            int half = place / 4;
            int leg = place % 4;
            all.add(b -> signRead(b, half, leg));
        }
        for (int join = 0; join < Math.min(x.count(2), 4); join++) {
            int j = join;
            all.add(b -> b.part(j));
        }
        for (int record = 0; record < Math.min(x.count(1), 20); record++) {
            int r = record;
            all.add(b -> b.list(r, 0));
        }
        for (int day : ROW_DAYS) {
            all.add(b -> rowOf(b, day));
        }
        return all;
    }

    /** All other LEGS are read, so that a PAIR tells what was read on this one. */
    private static long signRead(BirdBook b, int half, int leg) {
        if (b.count(1) >= 300) {
            return signReadByRing(b, half, leg);
        }
        for (int place = 0; place < 8; place++) {
            if (place != 4 * half + leg) {
                b.read(place / 4, place % 4, 98);
            }
        }
        return b.record(b.pair(5), 10 + 4 * half + leg);
    }

    /** Where no RECORD can be kept: a RING takes the SIGN of HALF 0, or is refused for one of HALF 1. */
    private static long signReadByRing(BirdBook b, int half, int leg) {
        for (int place = 0; place < 8; place++) {
            if (place != 4 * half + leg) {
                b.read(place / 4, place % 4, place < 4 ? 98 : NONE);
            }
        }
        int ring = b.ring(14600, NONE);
        return ring < 0 ? ring : b.count(10 * (ring + 1) + 3 + leg);
    }

    /** The WIDTH and the length of a DAY's ROW. */
    private static long rowOf(BirdBook b, int day) {
        int length = 0;
        while (b.tally(day, length, ALL_WIDTHS) == 0) {
            length++;
        }
        return b.tally(day, length, 0) * 1000 + length + (length == 0 ? 0 : b.tallied(day, 0) << 12);
    }
}
