import java.math.BigInteger;

/** The edges of promises 27 to 29: how many BIRDS there must be. */
public final class EdgesOfNumbersTest extends Edges {

    /** Calls that ask more than 512 times take a new book for each. */
    private static int low(int n, int c, int r, int num, int den) {
        return new BirdBook().low(n, c, r, num, den);
    }

    private static int high(int n, int c, int r, int num, int den) {
        return new BirdBook().high(n, c, r, num, den);
    }

    private static void ringed() {
        says("n are the BIRDS with PUT a or before whose DEATH is not ahead of b");
        BirdBook x = new BirdBook();
        plainRings(x, 9, 10, 11);
        due("a is 8", x.there(8, 20, 30, 0), 0);
        due("a is 9", x.there(9, 20, 30, 0), 1);
        due("a is 10", x.there(10, 20, 30, 0), 2);
        due("a is 11", x.there(11, 20, 30, 0), 3);
        found(x, 20, 0);
        due("DEATH on b", x.there(11, 20, 30, 0), 3);
        due("DEATH a DAY ahead of b", x.there(11, 21, 30, 0), 2);
        due("DEATH behind b", x.there(11, 19, 30, 0), 3);
        BirdBook joined = new BirdBook();
        plainRings(joined, 20, 10);
        joined.lose(1, 15);
        joined.join(1, 0);
        due("PUT of the BIRD's first RING", joined.there(10, 30, 30, 0), 1);
        due("a DAY ahead", joined.there(9, 30, 30, 0), 0);
        due("one BIRD of two RINGS", joined.there(20, 30, 30, 0), 1);
    }

    private static void taken() {
        says("c those with a CATCH of DAY b to e that is SURE and FITS them, or a RING PUT on DAY b to e");
        Setup setup = x -> plainRings(x, 0, 0, 0, 0);
        int[] days = {19, 20, 25, 30, 31};
        int[] in = {0, 1, 1, 1, 0};
        for (int i = 0; i < days.length; i++) {
            BirdBook x = made(setup);
            caught(x, days[i], 1);
            due("a CATCH of DAY " + days[i], x.there(10, 20, 30, 1), in[i]);
            BirdBook y = made(setup);
            plainRing(y, days[i], NONE, 9);
            due("a RING PUT on DAY " + days[i], y.there(10, 20, 30, 1), in[i]);
        }
        BirdBook x = made(setup);
        caught(x, 20, 0);
        caught(x, 21, 0);
        due("one BIRD caught twice", x.there(10, 20, 30, 1), 1);
        caught(x, 22, 9);
        due("a CATCH that FITS none", x.there(10, 20, 30, 1), 1);
        sight(x, 22, 1);
        pair(x, 22, half(1), 2);
        due("what is no CATCH", x.there(10, 20, 30, 1), 1);
        found(x, 22, 1);
        caught(x, 23, 1);
        due("a CATCH behind the DEATH", x.there(10, 20, 30, 1), 1);
        caught(x, 22, 1);
        due("a CATCH on the DEATH", x.there(10, 20, 30, 1), 2);
        x.lose(2, 24);
        caught(x, 25, 2);
        due("a CATCH behind the loss", x.there(10, 20, 30, 1), 2);
        caught(x, 24, 2);
        due("a CATCH on the loss", x.there(10, 20, 30, 1), 3);
        plainRing(x, 24, NONE, 9);
        due("a new RING of another BIRD", x.there(10, 20, 30, 1), 4);
        x.join(2, 4);
        due("a new RING of a BIRD that was caught", x.there(10, 20, 30, 1), 3);
        BirdBook first = new BirdBook();
        plainRing(first, 20, NONE, 0);
        due("RING 0 PUT on b", first.there(10, 20, 20, 1), 1);
        due("RING 0 PUT a DAY behind e", first.there(10, 19, 19, 1), 0);
        BirdBook late = made(setup);
        plainRing(late, 25, NONE, 9);
        late.lose(0, 25);
        late.join(0, 4);
        due("a RING PUT then of a BIRD ringed ahead of it", late.there(10, 20, 30, 1), 1);
        due("which is among both", late.there(10, 20, 30, 2), 1);
    }

    private static void both() {
        says("Of DAYS a, b, e: n (what 0), c (1), r (2), 3: the greatest N for which N * r is not above n * c (r above 0), "
                + "else n + c.");
        BirdBook none = new BirdBook();
        for (int what = 0; what < 4; what++) {
            due("of no BIRDS, what " + what, none.there(0, 1, 1, what), 0);
        }
        BirdBook x = new BirdBook();
        plainRings(x, 0, 0, 0, 20, 20);
        int[][] want = {{3, 2, 0, 5}, {3, 3, 1, 9}, {3, 4, 2, 6}, {3, 5, 3, 5}};
        for (int caught = 0; caught < want.length; caught++) {
            if (caught > 0) {
                caught(x, 20, caught - 1);
            }
            for (int what = 0; what < 4; what++) {
                due(caught + " caught, what " + what, x.there(10, 20, 30, what), want[caught][what]);
            }
        }
        BirdBook y = new BirdBook();
        plainRings(y, 0, 0, 0, 0, 0, 20);
        caught(y, 20, 0);
        caught(y, 20, 1);
        caught(y, 20, 2);
        due("5 * 4 over 3, cut", y.there(10, 20, 30, 3), 6);
        caught(y, 20, 3);
        due("5 * 5 over 4, cut", y.there(10, 20, 30, 3), 6);
        found(y, 19, 4);
        due("r of those not dead alone", y.there(10, 20, 30, 3), 5);
        says("r those that are among both.");
        BirdBook again = new BirdBook();
        plainRings(again, 0, 0, 0);
        again.lose(0, 10);
        plainRing(again, 20, NONE, 9);
        again.join(0, 3);
        caught(again, 20, 1);
        due("n", again.there(5, 20, 20, 0), 3);
        due("c", again.there(5, 20, 20, 1), 2);
        due("r", again.there(5, 20, 20, 2), 2);
        due("N", again.there(5, 20, 20, 3), 3);
    }

    private static void noSuchDays() {
        says("NONE for another what, if one is no DAY, or b is not behind a, or e ahead of b.");
        BirdBook x = new BirdBook();
        plainRings(x, 0, 5, 6, 7);
        for (int what : new int[] {LEAST_INT, -1, 4, 5, GREATEST_INT}) {
            due("what " + what, x.there(5, 6, 7, what), NONE);
        }
        for (int what = 0; what < 4; what++) {
            due("b is a, what " + what, x.there(6, 6, 7, what), NONE);
            due("b is ahead of a, what " + what, x.there(7, 6, 8, what), NONE);
            due("e is a DAY ahead of b, what " + what, x.there(5, 7, 6, what), NONE);
            for (int day : NO_DAYS) {
                due("a is " + day + ", what " + what, x.there(day, 6, 7, what), NONE);
                due("b is " + day + ", what " + what, x.there(5, day, 7, what), NONE);
                due("e is " + day + ", what " + what, x.there(5, 6, day, what), NONE);
            }
        }
        due("b is a DAY behind a", x.there(5, 6, 7, 0), 2);
        due("e is b", x.there(5, 6, 6, 1), 1);
        due("e is behind b", x.there(5, 6, 7, 1), 2);
    }

    private static void wrongSpans() {
        says("NONE, if there is none such, or n or c is not 1 to 40, r not 0 to both, den not 2 to 1000, num not 1 to den - 1.");
        int[][] wrong = {
            {0, 1, 0, 1, 2}, {-1, 1, 0, 1, 2}, {41, 1, 0, 1, 1000}, {LEAST_INT, 1, 0, 1, 2}, {GREATEST_INT, 1, 0, 1, 2},
            {1, 0, 0, 1, 2}, {1, -1, 0, 1, 2}, {1, 41, 0, 1, 1000}, {1, LEAST_INT, 0, 1, 2}, {1, GREATEST_INT, 0, 1, 2},
            {0, 0, 0, 1, 2}, {41, 41, 41, 1, 2},
            {2, 3, -1, 1, 1000}, {2, 3, 3, 1, 1000}, {3, 2, 3, 1, 1000}, {3, 2, LEAST_INT, 1, 2}, {3, 2, GREATEST_INT, 1, 2},
            {2, 2, 1, 0, 1}, {2, 2, 1, 1, 1}, {2, 2, 1, 1, 0}, {2, 2, 1, -1, -2}, {2, 2, 1, 1, 1001},
            {2, 2, 1, 1, LEAST_INT}, {2, 2, 1, 1, GREATEST_INT},
            {2, 2, 1, 0, 2}, {2, 2, 1, -1, 2}, {2, 2, 1, 2, 2}, {2, 2, 1, 1000, 1000}, {2, 2, 1, 3, 2},
            {2, 2, 1, LEAST_INT, 2}, {2, 2, 1, GREATEST_INT, 2}};
        for (int[] w : wrong) {
            String with = "(" + w[0] + ", " + w[1] + ", " + w[2] + ", " + w[3] + ", " + w[4] + ")";
            due("low" + with, low(w[0], w[1], w[2], w[3], w[4]), NONE);
            due("high" + with, high(w[0], w[1], w[2], w[3], w[4]), NONE);
        }
        int[][] right = {
            {1, 40, 0, 1, 2}, {40, 1, 0, 1, 2}, {1, 1, 1, 1, 1000}, {1, 1, 1, 999, 1000}, {40, 40, 40, 999, 1000},
            {2, 3, 2, 1, 2}, {3, 2, 2, 1, 2}, {2, 2, 0, 1, 2}, {40, 40, 20, 1, 1000}};
        for (int[] w : right) {
            String with = "(" + w[0] + ", " + w[1] + ", " + w[2] + ", " + w[3] + ", " + w[4] + ")";
            due("low" + with, low(w[0], w[1], w[2], w[3], w[4]) != NONE, true);
            due("high" + with, high(w[0], w[1], w[2], w[3], w[4]) != NONE, true);
        }
    }

    private static void spans() {
        says("The least N from n + c - r to 500 for which the WAYS that have r or fewer, and those that have r or more, "
                + "are each at least num / den of all");
        due("n + c - r itself", low(1, 1, 1, 1, 2), 1);
        due("n + c - r itself", low(40, 40, 40, 999, 1000), 40);
        due("n + c - r itself", low(7, 5, 5, 1, 2), 7);
        due("just half of the WAYS have r or fewer", low(1, 1, 0, 1, 2), 2);
        due("a bit more than half", low(1, 1, 0, 501, 1000), 3);
        due("499 of 500 WAYS", low(1, 1, 0, 499, 500), 500);
        due("not so many up to 500", low(1, 1, 0, 500, 501), NONE);
        due("the one and the other never hold both", low(2, 2, 1, 999, 1000), NONE);
        due("just one N", low(2, 2, 1, 5, 6), 4);
        says("The greatest such N.");
        due("just half of the WAYS have r or more", high(1, 1, 1, 1, 2), 2);
        due("a bit more than half", high(1, 1, 1, 501, 1000), 1);
        due("one of 500 WAYS", high(1, 1, 1, 1, 500), 500);
        due("two of 999: N is 499", high(1, 1, 1, 2, 999), 499);
        due("up to 500", high(1, 1, 0, 1, 2), 500);
        due("no more than 500", high(1, 1, 1, 1, 1000), 500);
        due("n + c - r itself", high(40, 40, 40, 999, 1000), 40);
        due("the one and the other never hold both", high(2, 2, 1, 999, 1000), NONE);
        due("not so many up to 500", high(1, 1, 0, 500, 501), NONE);
        due("just one N", high(2, 2, 1, 5, 6), 4);
    }

    private static BigInteger choose(int from, int some) {
        BigInteger all = BigInteger.ONE;
        for (int i = 0; i < some; i++) {
            all = all.multiply(BigInteger.valueOf(from - i)).divide(BigInteger.valueOf(i + 1));
        }
        return all;
    }

    /** The WAYS that have k ringed for k from some to others, of N. */
    private static BigInteger ways(int n, int c, int whole, int from, int to) {
        BigInteger sum = BigInteger.ZERO;
        for (int k = Math.max(from, 0); k <= Math.min(to, Math.min(n, c)); k++) {
            if (c - k <= whole - n) {
                sum = sum.add(choose(n, k).multiply(choose(whole - n, c - k)));
            }
        }
        return sum;
    }

    /** The greatest share of all, in thousandths, that some WAYS have. */
    private static int thousandths(BigInteger some, BigInteger all) {
        return some.multiply(BigInteger.valueOf(1000)).divide(all).intValue();
    }

    /** Shares that are just met and just missed at some N, where the numbers are the greatest. */
    private static void greatSpans() {
        says("of all ways of taking c of N BIRDS, n of which are ringed, those WAYS that have k ringed are "
                + "C(n, k) * C(N - n, c - k).");
        int[][] parts = {{40, 40, 0}, {40, 40, 1}, {40, 40, 8}, {40, 40, 39}, {39, 40, 3}, {1, 40, 0}, {40, 1, 1}};
        for (int[] p : parts) {
            for (int whole : new int[] {p[0] + p[1] - p[2], 81, 160, 499, 500}) {
                BigInteger all = choose(whole, p[1]);
                int few = thousandths(ways(p[0], p[1], whole, 0, p[2]), all);
                int many = thousandths(ways(p[0], p[1], whole, p[2], 40), all);
                for (int num : new int[] {few, few + 1, many, many + 1}) {
                    sameSpan(p[0], p[1], p[2], num);
                }
            }
        }
    }

    private static void sameSpan(int n, int c, int r, int num) {
        String with = "(" + n + ", " + c + ", " + r + ", " + num + ", 1000)";
        PlainBook plain = new PlainBook();
        due("low" + with, low(n, c, r, num, 1000), plain.low(n, c, r, num, 1000));
        due("high" + with, high(n, c, r, num, 1000), plain.high(n, c, r, num, 1000));
    }

    public static void main(String[] args) {
        ringed();
        taken();
        both();
        noSuchDays();
        wrongSpans();
        spans();
        greatSpans();
        end("the edges of how many BIRDS there must be");
    }
}
