import java.util.Arrays;

/** The edges of promises 22 to 26: the LIST and its GIVINGS. */
public final class EdgesOfListTest extends Edges {

    /** RINGS 0 and 1; RECORDS 0 (a PAIR of both), 1 (a SIGHT of RING 0), 2 (a SIGHT of none). */
    private static void some(BirdBook x) {
        plainRings(x, 10, 10);
        pair(x, 20, half(0), 1);
        sight(x, 20, 0);
        sight(x, 20, 9);
    }

    /** RECORDS 0 to 15 are listed; 16 FITS a BIRD, 17 FITS none, 18 is a NOTE. */
    private static void sixteen(BirdBook x) {
        plainRings(x, 10, 10);
        pair(x, 20, half(0), 1);
        for (int record = 1; record < 17; record++) {
            sight(x, 20, record % 2);
        }
        sight(x, 20, 9);
        x.note(1);
        for (int record = 0; record < 16; record++) {
            x.list(record, 0);
        }
    }

    private static void listing() {
        says("A HALF of a RECORD comes to the LIST: how many it has.");
        BirdBook x = made(EdgesOfListTest::some);
        due("the first", x.list(0, 1), 1);
        due("the second", x.list(1, 0), 2);
        due("the LIST", x.count(5), 2);
        due("HALF 1 of it", x.given(0), 1);
        BirdBook kinds = new BirdBook();
        kinds.rule(0, 14600);
        plainRings(kinds, 0, 0, 0);
        caught(kinds, 5, 0);
        sight(kinds, 5, 1);
        pair(kinds, 5, half(0), 2);
        nest(kinds, 5, 2, 0, 1);
        found(kinds, 5, 2);
        for (int record = 0; record < 5; record++) {
            due("KIND " + record, kinds.list(record, 0), record + 1);
        }
        says("-2: there is none such; -5: it FITS no BIRD");
        refused(EdgesOfListTest::some, "FITS none", b -> b.list(2, 0), -5);
        refused(b -> {
            some(b);
            b.lose(0, 19);
        }, "LOST ahead of that", b -> b.list(1, 0), -5);
        refused(b -> {
            some(b);
            found(b, 19, 0);
        }, "dead ahead of that", b -> b.list(1, 0), -5);
        refused(b -> {
            plainRings(b, 10, 20);
            b.lose(0, 20);
            b.join(0, 1);
            found(b, 19, 0);
        }, "a FOUND that does not COUNT", b -> b.list(0, 0), -5);
        says("-4: a HALF of that RECORD is there");
        Setup listed = b -> {
            some(b);
            b.list(0, 0);
        };
        refused(listed, "the same HALF", b -> b.list(0, 0), -4);
        refused(listed, "the other HALF", b -> b.list(0, 1), -4);
        refused(listed, "-2 comes first", b -> b.list(0, 2), -2);
        refused(b -> {
            some(b);
            b.list(0, 1);
        }, "the other HALF", b -> b.list(0, 0), -4);
        refused(b -> {
            listed.on(b);
            b.lose(1, 19);
        }, "-5 comes ahead of -4", b -> b.list(0, 1), -5);
        fullList();
    }

    private static void fullList() {
        says("-8: there are 16.");
        BirdBook x = new BirdBook();
        plainRing(x, 10, NONE, 0);
        for (int record = 0; record < 17; record++) {
            sight(x, 20, 0);
            due("list(" + record + ", 0)", x.list(record, 0), record < 16 ? record + 1 : -8);
        }
        Setup setup = EdgesOfListTest::sixteen;
        refused(setup, "the 17th", b -> b.list(16, 0), -8);
        refused(setup, "-4 comes first", b -> b.list(15, 0), -4);
        refused(setup, "-4 comes first, by the other HALF", b -> b.list(0, 1), -4);
        refused(setup, "-5 comes first", b -> b.list(17, 0), -5);
        refused(setup, "-2 comes first", b -> b.list(18, 0), -2);
        refused(setup, "-2 comes first", b -> b.list(19, 0), -2);
        due("the LIST", made(setup).count(5), 16);
    }

    private static void askedAsTheyCome() {
        says("The LIST has up to 16 HALVES that FIT a BIRD (asked as they come to it).");
        BirdBook x = made(EdgesOfListTest::some);
        due("FITS none", x.list(2, 0), -5);
        plainRing(x, 20, NONE, 9);
        due("FITS one by now", x.list(2, 0), 1);
        x.lose(0, 19);
        due("FITS none any more", x.list(1, 0), -5);
        x.lose(2, 20);
        due("its loss on that DAY", x.given(0), 2);
        found(x, 20, 9);
        due("its DEATH on that DAY", x.given(0), 2);
        due("the LIST", x.count(5), 1);
    }

    private static void emptied() {
        says("The LIST is empty: how many it had.");
        BirdBook x = made(EdgesOfListTest::sixteen);
        due("of 16", x.empty(), 16);
        due("of none", x.empty(), 0);
        due("the LIST", x.count(5), 0);
        due("least()", x.least(), 0);
        due("given(0)", x.given(0), NONE);
        due("listed anew", x.list(15, 0), 1);
        due("its BIRD", x.given(0), 1);
        due("of one", x.empty(), 1);
        due("of a new book", new BirdBook().empty(), 0);
        for (int record = 0; record < 16; record++) {
            due("list anew", x.list(record, 0), record + 1);
        }
        due("full again", x.list(16, 0), -8);
    }

    private static void noGiving() {
        says("LEAST (0 with an empty LIST); NONE, if there is no GIVING (a HALF may FIT no BIRD any more).");
        BirdBook none = new BirdBook();
        due("least() of a new book", none.least(), 0);
        due("least() of an empty LIST", made(EdgesOfListTest::some).least(), 0);
        says("MOST; likewise.");
        due("most() of a new book", none.most(), 0);
        due("most() of an empty LIST", made(EdgesOfListTest::some).most(), 0);
        // RING 0 is dead on 20; by the JOIN, RING 1's SIGHT of 60 is behind its BIRD's DEATH.
        BirdBook x = new BirdBook();
        plainRings(x, 10, 20);
        x.lose(0, 20);
        found(x, 20, 0);
        sight(x, 60, 1);
        sight(x, 15, 0);
        x.list(1, 0);
        x.list(2, 0);
        for (int turn = 0; turn < 3; turn++) {
            boolean joined = turn == 1;
            if (joined) {
                due("join", x.join(0, 1), 0);
            }
            says("LEAST (0 with an empty LIST); NONE, if there is no GIVING (a HALF may FIT no BIRD any more).");
            due("least()", x.least(), joined ? NONE : 2);
            says("MOST; likewise.");
            due("most()", x.most(), joined ? NONE : 2);
            says("The BIRD of the i-th HALF of the LIST in the GIVING of LEAST; NONE if there is none such.");
            due("given(0)", x.given(0), joined ? NONE : 1);
            due("given(1)", x.given(1), joined ? NONE : 0);
            due("the LIST stays", x.count(5), 2);
            if (joined) {
                due("part", x.part(0), 0);
            }
        }
    }

    /** A SIGHT of one SIGN on one LEG, which FITS the RINGS that have it there; each comes to the LIST. */
    private static BirdBook listed(int[][] rings, int[]... legsAndSigns) {
        BirdBook x = new BirdBook();
        for (int[] signs : rings) {
            ring(x, 10, NONE, signs);
        }
        for (int[] one : legsAndSigns) {
            x.read(0, one[0], one[1]);
            x.list(x.sight(20), 0);
        }
        return x;
    }

    private static void gives(String what, BirdBook x, int least, int most, int... birds) {
        says("A GIVING gives each of them a BIRD that it FITS. LEAST is the smallest number of BIRDS in a GIVING, "
                + "MOST the greatest");
        due(what + ": least()", x.least(), least);
        due(what + ": most()", x.most(), most);
        says("the GIVING of LEAST is that whose BIRDS, from the first HALF on, are the least of all GIVINGS with so few.");
        for (int i = 0; i < birds.length; i++) {
            due(what + ": given(" + i + ")", x.given(i), birds[i]);
        }
        says("The BIRD of the i-th HALF of the LIST in the GIVING of LEAST; NONE if there is none such.");
        for (int i : new int[] {LEAST_INT, -1, birds.length, 16, 17, GREATEST_INT}) {
            due(what + ": given(" + i + ")", x.given(i), NONE);
        }
    }

    private static void givings() {
        int[][] two = {{1, 2, 3, 4}, {1, 5, 6, 7}};
        gives("one HALF of two BIRDS", listed(two, half(0, 1)), 1, 1, 0);
        gives("two HALVES of two BIRDS", listed(two, half(0, 1), half(0, 1)), 1, 2, 0, 0);
        gives("three HALVES of two BIRDS", listed(two, half(0, 1), half(0, 1), half(0, 1)), 1, 2, 0, 0, 0);
        gives("the second one's alone", listed(two, half(0, 1), half(1, 5)), 1, 2, 1, 1);
        gives("the other way round", listed(two, half(1, 5), half(0, 1)), 1, 2, 1, 1);
        gives("one each", listed(two, half(1, 2), half(1, 5)), 2, 2, 0, 1);
        gives("one each and one of both", listed(two, half(1, 5), half(0, 1), half(1, 2)), 2, 2, 1, 0, 0);
        gives("one and two", listed(two, half(1, 2), half(1, 5), half(1, 5)), 2, 2, 0, 1, 1);
        // {0, 1}, {0, 2}, {1, 2}
        int[][] three = {{1, 1, 5, 0}, {1, 6, 1, 1}, {7, 1, 1, 2}};
        gives("each two of three", listed(three, half(0, 1), half(1, 1), half(2, 1)), 2, 3, 0, 0, 1);
        gives("in another order", listed(three, half(2, 1), half(1, 1), half(0, 1)), 2, 3, 1, 0, 0);
        gives("with one alone", listed(three, half(3, 2), half(0, 1), half(1, 1)), 2, 3, 2, 0, 0);
        // {0, 1}, {2, 3}, {0, 2}, {1, 3}: BIRDS 0 and 3, or 1 and 2.
        int[][] tied = {{1, 10, 1, 10}, {1, 11, 11, 1}, {12, 1, 1, 12}, {13, 1, 13, 1}};
        gives("the first HALF's BIRD settles the others'",
                listed(tied, half(0, 1), half(1, 1), half(2, 1), half(3, 1)), 2, 4, 0, 3, 0, 3);
        gives("in another order",
                listed(tied, half(1, 1), half(0, 1), half(2, 1), half(3, 1)), 2, 4, 2, 1, 2, 1);
        // BIRD 0 covers the most HALVES, and is in no GIVING of LEAST.
        int[][] greedy = {{1, 1, 1, 1}, {1, 1, 2, 9}, {8, 8, 1, 1}};
        gives("the BIRD of most HALVES is none of the fewest",
                listed(greedy, half(0, 1), half(1, 1), half(2, 1), half(3, 1), half(2, 2), half(0, 8)),
                2, 3, 1, 1, 2, 2, 1, 2);
        // {0, 1}, {1, 2}, {2, 3}, {0}: each has a BIRD of its own only if all three move on.
        int[][] chain = {{1, 10, 20, 30}, {1, 2, 21, 31}, {11, 2, 3, 32}, {12, 13, 3, 33}};
        gives("each moves on", listed(chain, half(0, 1), half(1, 2), half(2, 3), half(3, 30)), 2, 4, 0, 2, 2, 0);
    }

    /** Each answer is of the LIST as it is, whatever was listed and asked ahead of it. */
    private static void givingsAnew() {
        int[][] rings = {{1, 1, 5, 0}, {1, 6, 1, 1}, {7, 1, 1, 2}};
        BirdBook x = listed(rings, half(3, 0), half(3, 0), half(3, 2));
        gives("ahead of it", x, 2, 2, 0, 0, 2);
        x.empty();
        x.list(2, 0);
        x.list(0, 0);
        gives("listed anew", x, 2, 2, 2, 0);
        x.empty();
        gives("emptied", x, 0, 0);
        // RING 0 is LOST, so that the SIGHT of it or of RING 1 is RING 1's.
        BirdBook y = listed(rings, half(0, 1), half(3, 0), half(1, 1));
        gives("ahead of the loss", y, 1, 3, 0, 0, 0);
        y.lose(0, 19);
        y.empty();
        y.list(0, 0);
        y.list(2, 0);
        gives("behind the loss", y, 2, 2, 1, 2);
    }

    /** So many BIRDS as LEAST asks for, where the HALVES of the greatest ones would seem to allow fewer. */
    private static void unevenGivings() {
        int[][] own = {{0, 0, 0, 0}, {1, 1, 1, 1}, {2, 2, 2, 2}, {3, 3, 3, 3}};
        gives("three, one and one", listed(own, half(0, 0), half(1, 0), half(0, 1), half(2, 0), half(0, 2)),
                3, 3, 0, 0, 1, 0, 2);
        int[][] halves = new int[16][];
        int[] birds = new int[16];
        for (int i = 0; i < 16; i++) {
            halves[i] = half(i / 4, i % 4);
            birds[i] = i % 4;
        }
        gives("four of each", listed(own, halves), 4, 4, birds);
    }

    private static void longGivings() {
        int[][] own = new int[16][];
        int[][] halves = new int[16][];
        int[] birds = new int[16];
        for (int i = 0; i < 16; i++) {
            own[i] = half(50, i, i, i);
            halves[i] = half(1, 15 - i);
            birds[i] = 15 - i;
        }
        gives("16 HALVES of 16 BIRDS, one each", listed(own, halves), 16, 16, birds);
        for (int i = 0; i < 16; i++) {
            halves[i] = half(0, 50);
        }
        gives("16 HALVES, each of all 16 BIRDS", listed(own, halves), 1, 16, new int[16]);
        gives("16 HALVES, each of the same 15 BIRDS", listed(Arrays.copyOf(own, 15), halves), 1, 15, new int[16]);
        for (int i = 0; i < 16; i++) {
            halves[i] = half(1, 7);
            birds[i] = 7;
        }
        gives("16 HALVES of one BIRD", listed(own, halves), 1, 1, birds);
        for (int i = 0; i < 16; i++) {
            halves[i] = i < 15 ? half(0, 50) : half(3, 15);
            birds[i] = 15;
        }
        gives("the last of 16 is of the last BIRD alone", listed(own, halves), 1, 16, birds);
    }

    public static void main(String[] args) {
        listing();
        askedAsTheyCome();
        emptied();
        noGiving();
        givings();
        givingsAnew();
        unevenGivings();
        longGivings();
        end("the edges of the LIST");
    }
}
