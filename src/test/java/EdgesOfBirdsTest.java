/** The edges of Terms 2 and 3 and of promises 17 to 21: what READS LIKE a RING, DEATHS, who is ALIVE, and kin. */
public final class EdgesOfBirdsTest extends Edges {

    private static void days() {
        says("A HALF of a RECORD of DAY d READS LIKE a RING that was PUT on d or before, and not LOST ahead of d");
        Setup setup = x -> {
            plainRing(x, 10, NONE, 1);
            x.lose(0, 20);
        };
        int[] days = {0, 9, 10, 11, 19, 20, 21, 14600};
        int[] like = {0, 0, 1, 1, 1, 1, 0, 0};
        for (int i = 0; i < days.length; i++) {
            int day = days[i];
            due("a CATCH of DAY " + day, fitsOf(made(setup), x -> caught(x, day, 1)), like[i]);
            due("a SIGHT of DAY " + day, fitsOf(made(setup), x -> sight(x, day, 1)), like[i]);
            due("a PAIR of DAY " + day, fitsOf(made(setup), x -> pair(x, day, half(1), 5)), like[i]);
            due("a FOUND of DAY " + day, fitsOf(made(setup), x -> found(x, day, 1)), like[i]);
        }
        Setup oneDay = x -> {
            plainRing(x, 10, NONE, 1);
            x.lose(0, 10);
        };
        due("PUT and LOST on that DAY", fitsOf(made(oneDay), x -> caught(x, 10, 1)), 1);
        due("a DAY ahead", fitsOf(made(oneDay), x -> caught(x, 9, 1)), 0);
        due("a DAY behind", fitsOf(made(oneDay), x -> caught(x, 11, 1)), 0);
        BirdBook late = new BirdBook();
        caught(late, 10, 1);
        due("no RING", late.fits(0, 0), 0);
        plainRing(late, 10, NONE, 1);
        due("a RING that came to the book behind the CATCH", late.fits(0, 0), 1);
        late.lose(0, 10);
        due("LOST on that DAY", late.fits(0, 0), 1);
    }

    private static long fitsOf(BirdBook x, Call record) {
        return x.fits((int) record.on(x), 0);
    }

    private static void slips() {
        Setup setup = x -> ring(x, 10, NONE, 1, 2, 3, 4);
        for (int leg = 0; leg < 4; leg++) {
            int l = leg;
            says("if each SIGN read is the RING's");
            due("a CATCH, LEG " + l + " unlike", fitsOf(made(setup), x -> slipped(x, l).caught(10, 1f)), 0);
            due("a FOUND, LEG " + l + " unlike", fitsOf(made(setup), x -> slipped(x, l).found(10)), 0);
            says("in a SIGHT, PAIR or NEST one SIGN may be another one, if at least two were read.");
            due("four read, LEG " + l + " unlike", fitsOf(made(setup), x -> slipped(x, l).sight(10)), 1);
            due("LEG " + l + " alone and unlike", fitsOf(made(setup), x -> one(x, l, 9).sight(10)), 0);
            due("LEG " + l + " alone and like", fitsOf(made(setup), x -> one(x, l, l + 1).sight(10)), 1);
            int next = (l + 1) % 4;
            due("two read, one unlike", fitsOf(made(setup), x -> one(one(x, l, 9), next, next + 1).sight(10)), 1);
            due("two read, two unlike", fitsOf(made(setup), x -> one(one(x, l, 9), next, 9).sight(10)), 0);
            due("four read, two unlike", fitsOf(made(setup), x -> one(slipped(x, l), next, 9).sight(10)), 0);
            due("three read, one unlike", fitsOf(made(setup), x -> one(slipped(x, l), next, NONE).sight(10)), 1);
            int third = (l + 2) % 4;
            due("three read, two unlike",
                    fitsOf(made(setup), x -> one(one(slipped(x, l), next, NONE), third, 9).sight(10)), 0);
        }
        due("four read, four unlike", fitsOf(made(setup), x -> sight(x, 10, 4, 3, 2, 1)), 0);
        slipsOfTwoHalves();
    }

    private static BirdBook slipped(BirdBook x, int leg) {
        return one(read(x, 0, 1, 2, 3, 4), leg, 9);
    }

    private static BirdBook one(BirdBook x, int leg, int sign) {
        x.read(0, leg, sign);
        return x;
    }

    private static void slipsOfTwoHalves() {
        Setup setup = x -> {
            x.rule(0, 14600);
            ring(x, 10, NONE, 1, 2, 3, 4);
            ring(x, 10, NONE, 5, 6, 7, 8);
            plainRing(x, 10, NONE, 50);
        };
        BirdBook x = made(setup);
        pair(x, 10, half(9), 5, 6, 7, 8);
        due("one SIGN of HALF 0, four of HALF 1", x.fits(0, 0), 0);
        due("HALF 1", x.fits(0, 1), 1);
        pair(x, 10, half(1, 2, 3, 4), 9);
        due("four SIGNS of HALF 0, one of HALF 1", x.fits(1, 1), 0);
        pair(x, 10, half(1, 9), 9, 6);
        due("one unlike of two in HALF 0", x.fits(2, 0), 1);
        due("one unlike of two in HALF 1", x.fits(2, 1), 1);
        due("who", x.who(2, 1, 0), 1);
        pair(x, 10, half(9, 9, 3), 5, 9, 9);
        due("two unlike of three in HALF 0", x.fits(3, 0), 0);
        due("two unlike of three in HALF 1", x.fits(3, 1), 0);
        read(read(x, 0, 1, 9), 1, 5, 9);
        due("a NEST with one unlike of two in each", x.nest(10, 2), 4);
        read(read(x, 0, 9), 1, 5, 6);
        due("a NEST with one unlike alone", x.nest(10, 2), -5);
    }

    private static void founds() {
        says("A FOUND COUNTS if it READS LIKE a RING (there is one at most) and no RING of its BIRD was PUT behind its DAY.");
        Setup setup = x -> {
            plainRings(x, 10, 20);
            x.lose(0, 20);
            x.join(0, 1);
        };
        for (int day = 19; day <= 20; day++) {
            BirdBook x = made(setup);
            found(x, day, 0);
            due("FOUND on DAY " + day, x.death(0), day == 20 ? 20 : NONE);
            due("it FITS", x.fits(0, 0), day == 20 ? 1 : 0);
            x.part(0);
            due("PARTED", x.death(0), day);
            due("of the other one", x.death(1), NONE);
            due("it FITS", x.who(0, 0, 0), 0);
        }
        BirdBook none = made(setup);
        found(none, 30, 5);
        due("a FOUND of no RING", none.count(4), 0);
        due("it FITS none", none.fits(0, 0), 0);
        says("A BIRD's DEATH is the first DAY of the FOUNDS that COUNT and READ LIKE one of its RINGS.");
        BirdBook x = made(setup);
        found(x, 40, 1);
        due("one", x.death(0), 40);
        found(x, 41, 1);
        due("a later one", x.death(0), 40);
        found(x, 39, 1);
        due("an earlier one", x.death(0), 39);
        found(x, 20, 0);
        due("of another RING of the BIRD", x.death(1), 20);
        found(x, 15, 0);
        due("that does not COUNT", x.death(1), 20);
        found(x, 9, 0);
        due("ahead of its PUT", x.death(1), 20);
        due("BIRDS with a DEATH", x.count(4), 1);
        x.part(0);
        due("DEATHS of two BIRDS", x.death(0), 15);
        due("DEATHS of two BIRDS", x.death(1), 39);
        due("BIRDS with a DEATH", x.count(4), 2);
        x.lose(1, 38);
        due("LOST ahead of it, as is told only now", x.death(1), NONE);
        due("BIRDS with a DEATH", x.count(4), 1);
        BirdBook zero = new BirdBook();
        plainRing(zero, 0, NONE, 5);
        found(zero, 0, 0);
        due("a FOUND of no RING on DAY 0", zero.death(0), NONE);
        allSixty();
    }

    private static void allSixty() {
        BirdBook x = new BirdBook();
        for (int sign = 0; sign < 60; sign++) {
            plainRing(x, 0, NONE, sign);
        }
        found(x, 5, 60);
        due("a FOUND of none of 60 RINGS", x.count(4), 0);
        found(x, 5, 59);
        due("a FOUND of the last of them", x.death(59), 5);
        due("a SIGHT of none of them", fitsOf(x, b -> sight(b, 5, 60)), 0);
        due("a CATCH of none of them", x.nearest(caught(x, 5, 60), 0), 0);
        due("a SIGHT of the last of them", x.who(sight(x, 5, 59), 0, 0), 59);
        due("a NEST of none of them", nest(x, 5, 0, 60, 61), -5);
        due("a PARENT that is dead", nest(x, 6, 0, 58, 59), -5);
        due("there", x.there(4, 6, 7, 0), 59);
    }

    private static void fitting() {
        says("A HALF FITS a BIRD, if it READS LIKE one of its RINGS and d is not behind its DEATH (a FOUND: if it COUNTS, too).");
        Setup setup = x -> {
            plainRing(x, 10, NONE, 1);
            found(x, 30, 1);
        };
        for (int day = 29; day <= 31; day++) {
            int d = day;
            int want = day <= 30 ? 1 : 0;
            due("a CATCH of DAY " + day, fitsOf(made(setup), x -> caught(x, d, 1)), want);
            due("a SIGHT of DAY " + day, fitsOf(made(setup), x -> sight(x, d, 1)), want);
            due("a FOUND of DAY " + day, fitsOf(made(setup), x -> found(x, d, 1)), want);
        }
        BirdBook x = made(setup);
        found(x, 29, 1);
        due("the first FOUND, behind the DEATH now", x.fits(0, 0), 0);
        due("the FOUND of the DEATH", x.fits(1, 0), 1);
        BirdBook two = new BirdBook();
        ring(two, 10, NONE, 1, 2, 3, 4);
        ring(two, 20, NONE, 1, 2, 3, 5);
        two.lose(0, 20);
        due("READS LIKE two RINGS of two BIRDS", fitsOf(two, b -> sight(b, 20, 1, 2)), 2);
        two.join(0, 1);
        due("READS LIKE two RINGS of one BIRD", two.fits(0, 0), 1);
        due("its NUMBER", two.who(0, 0, 0), 0);
        due("nothing more", two.who(0, 0, 1), NONE);
        read(two, 0, 1, 2, 3, 5).found(25);
        due("by the DEATH of another RING of the BIRD", fitsOf(two, b -> sight(b, 26, 1, 2)), 0);
    }

    private static void sure() {
        says("It is SURE if it FITS just one BIRD.");
        Setup setup = x -> {
            x.rule(0, 100);
            ring(x, 10, NONE, 1, 2, 3, 4);
            ring(x, 20, NONE, 1, 2, 3, 5);
        };
        BirdBook x = made(setup);
        sight(x, 30, 1, 2);
        due("it FITS two", x.alive(0, 30), 2);
        x.lose(0, 20);
        due("it FITS one", x.alive(1, 30), 1);
        BirdBook joined = made(setup);
        joined.lose(0, 20);
        sight(joined, 20, 1, 2);
        sight(joined, 20, 9, 2, 3, 9);
        due("two", joined.alive(0, 20), 2);
        joined.join(0, 1);
        sight(joined, 30, 1, 2);
        due("two RINGS of one BIRD", joined.alive(0, 30), 1);
    }

    private static void born() {
        says("A BIRD's HATCHED is the least of its RINGS' (none if none has one), its PUT the least of theirs.");
        int[][] hatched = {{NONE, NONE}, {90, NONE}, {NONE, 80}, {90, 80}, {80, 90}};
        int[] firstAlive = {100, 90, 80, 80, 80};
        for (int i = 0; i < hatched.length; i++) {
            BirdBook x = new BirdBook();
            x.rule(0, 50);
            plainRing(x, 100, hatched[i][0], 0);
            plainRing(x, 110, hatched[i][1], 1);
            x.lose(0, 105);
            x.join(0, 1);
            int born = firstAlive[i];
            due("on BORN, run " + i, x.alive(1, born), 1);
            due("a DAY ahead, run " + i, x.alive(1, born - 1), i == 0 ? 2 : 0);
            due("GREATEST behind BORN, run " + i, x.alive(0, born + 50), born + 50 <= 110 ? 1 : 2);
            due("a DAY more, run " + i, x.alive(0, born + 51), 0);
        }
        BirdBook x = new BirdBook();
        x.rule(0, 50);
        plainRings(x, 110, 100);
        x.lose(1, 105);
        x.join(1, 0);
        due("PUT of the RING with the greater number", x.alive(0, 100), 1);
        due("GREATEST ahead of PUT", x.alive(0, 50), 2);
        due("a DAY more", x.alive(0, 49), 0);
    }

    private static void notAlive() {
        Setup known = x -> {
            x.rule(0, 100);
            plainRing(x, 200, 180, 1);
        };
        Setup unknown = x -> {
            x.rule(0, 100);
            plainRing(x, 200, NONE, 1);
        };
        says("0 no: ahead of HATCHED, if that is known, else more than GREATEST DAYS ahead of PUT");
        answers(known, new int[] {0, 179, 180, 199, 200, 201}, 0, 0, 1, 1, 1, 2);
        answers(unknown, new int[] {0, 99, 100, 101, 199, 200, 201}, 0, 0, 2, 2, 2, 1, 2);
        says("more than GREATEST DAYS behind BORN.");
        answers(known, new int[] {280, 281, 300, 301, 14600}, 2, 0, 0, 0, 0);
        answers(unknown, new int[] {300, 301, 14600}, 2, 0, 0);
        Setup seenLater = x -> {
            known.on(x);
            caught(x, 290, 1);
        };
        answers(seenLater, new int[] {280, 281, 290}, 1, 0, 0);
        says("on its DEATH and behind it");
        Setup dead = x -> {
            known.on(x);
            found(x, 250, 1);
        };
        answers(dead, new int[] {179, 180, 200, 201, 249, 250, 251, 280}, 0, 1, 1, 2, 2, 0, 0, 0);
        Setup deadAtOnce = x -> {
            known.on(x);
            found(x, 200, 1);
        };
        answers(deadAtOnce, new int[] {180, 199, 200, 201}, 1, 1, 0, 0);
        says("Else 2 maybe.");
        answers(known, new int[] {201, 280}, 2, 2);
        answers(unknown, new int[] {100, 199, 201, 300}, 2, 2, 2, 2);
        answers(dead, new int[] {201, 249}, 2, 2);
        Setup first = x -> {
            x.rule(0, 14600);
            plainRing(x, 0, NONE, 1);
        };
        answers(first, new int[] {0, 1, 14600}, 1, 2, 2);
    }

    private static void answers(Setup setup, int[] days, int... want) {
        BirdBook x = made(setup);
        for (int i = 0; i < days.length; i++) {
            due("alive(0, " + days[i] + ")", x.alive(0, days[i]), want[i]);
        }
    }

    private static void alive() {
        says("Else 1 yes: from BORN up to the last DAY, or PUT, of its RINGS and of all HALVES (but FOUNDS') "
                + "that are SURE and FIT it.");
        Setup setup = x -> {
            x.rule(0, 1000);
            plainRings(x, 100, 100, 100);
            ring(x, 100, NONE, 0, 0, 0, 9);
        };
        Call[] seen = {x -> caught(x, 150, 0), x -> sight(x, 150, 0, 0, 0, 0), x -> sight(x, 150, NONE, NONE, NONE, 0),
            x -> pair(x, 150, half(NONE, NONE, NONE, 0), 1), x -> pair(x, 150, half(1), NONE, NONE, NONE, 0),
            x -> pair(x, 150, half(0), NONE, NONE, NONE, 0)};
        int[] last = {150, 100, 150, 150, 150, 150};
        for (int i = 0; i < seen.length; i++) {
            Call call = seen[i];
            int[] want = {1, last[i] == 150 ? 1 : 2, 2};
            answers(x -> {
                setup.on(x);
                call.on(x);
            }, new int[] {100, 150, 151}, want);
        }
        BirdBook nested = made(setup);
        read(read(nested, 0, NONE, NONE, NONE, 0), 1, 1);
        due("nest", nested.nest(160, 2), 0);
        due("HALF 0 of a NEST", nested.alive(0, 160), 1);
        due("HALF 1 of a NEST", nested.alive(1, 160), 1);
        due("not the young", nested.alive(2, 160), 2);
        due("a DAY behind", nested.alive(1, 161), 2);
        BirdBook found = made(setup);
        found(found, 200, 1);
        due("a FOUND is none of these", found.alive(1, 199), 2);
        BirdBook other = made(setup);
        caught(other, 150, 1);
        due("SURE of another BIRD", other.alive(0, 150), 2);
        BirdBook none = new BirdBook();
        plainRing(none, 100, NONE, 1);
        sight(none, 150, 9);
        none.note(1);
        due("a SIGHT that FITS none, with one BIRD alone", none.alive(0, 150), 2);
        pair(none, 151, half(9), 8);
        due("a PAIR that FITS none", none.alive(0, 150), 2);
        BirdBook several = made(setup);
        caught(several, 300, 1);
        caught(several, 250, 1);
        due("the last of several", several.alive(1, 300), 1);
        due("between them", several.alive(1, 275), 1);
        due("behind them", several.alive(1, 301), 2);
        BirdBook dead = made(setup);
        caught(dead, 300, 1);
        found(dead, 200, 1);
        due("a CATCH behind the DEATH FITS none", dead.alive(1, 199), 2);
        says("NONE, if there is no such RING or DAY.");
        for (int ring : new int[] {LEAST_INT, -1, 4, 60, GREATEST_INT}) {
            due("alive(" + ring + ", 100)", made(setup).alive(ring, 100), NONE);
        }
        for (int day : NO_DAYS) {
            due("alive(0, " + day + ")", made(setup).alive(0, day), NONE);
        }
    }

    private static void birds() {
        BirdBook x = new BirdBook();
        plainRings(x, 10, 20);
        for (int ring : new int[] {LEAST_INT, -1, 2, 59, 60, GREATEST_INT}) {
            says("The NUMBER of the RING's BIRD; NONE, if there is no such RING.");
            due("bird(" + ring + ")", x.bird(ring), NONE);
            says("The DEATH of the RING's BIRD; NONE without, or if there is no such RING.");
            due("death(" + ring + ")", x.death(ring), NONE);
            says("The i-th PARENT (by NUMBERS) of the RING's BIRD; NONE if there is none such.");
            due("parent(" + ring + ", 0)", x.parent(ring, 0), NONE);
            says("Whether the BIRD of RING a is a FOREBEAR of that of RING b.");
            due("forebear(" + ring + ", 0)", x.forebear(ring, 0), false);
            due("forebear(0, " + ring + ")", x.forebear(0, ring), false);
            due("forebear(" + ring + ", " + ring + ")", x.forebear(ring, ring), false);
        }
        says("The DEATH of the RING's BIRD; NONE without, or if there is no such RING.");
        due("without", x.death(0), NONE);
        plainRing(x, 0, NONE, 5);
        found(x, 0, 5);
        due("a DEATH on DAY 0", x.death(2), 0);
        due("BIRDS with a DEATH", x.count(4), 1);
        due("alive on DAY 0", x.alive(2, 0), 0);
        BirdBook none = new BirdBook();
        due("bird(0) of no RINGS", none.bird(0), NONE);
        due("death(0) of no RINGS", none.death(0), NONE);
        due("alive(0, 0) of no RINGS", none.alive(0, 0), NONE);
        due("parent(0, 0) of no RINGS", none.parent(0, 0), NONE);
        due("forebear(0, 0) of no RINGS", none.forebear(0, 0), false);
    }

    /** 2 and 1 are the PARENTS of 3, then 0 and 3 those of 4; RING 5 is of no kin. */
    private static void family(BirdBook x) {
        x.rule(10, 14600);
        plainRings(x, 0, 0, 0, 10, 20, 30);
        nest(x, 50, 3, 2, 1);
        nest(x, 50, 4, 3, 0);
    }

    private static void kin() {
        says("The i-th PARENT (by NUMBERS) of the RING's BIRD; NONE if there is none such.");
        BirdBook x = made(EdgesOfBirdsTest::family);
        due("parent(3, 0)", x.parent(3, 0), 1);
        due("parent(3, 1)", x.parent(3, 1), 2);
        due("parent(4, 0)", x.parent(4, 0), 0);
        due("parent(4, 1)", x.parent(4, 1), 3);
        for (int i : new int[] {LEAST_INT, -1, 2, 60, 64, GREATEST_INT}) {
            due("parent(3, " + i + ")", x.parent(3, i), NONE);
        }
        due("without", x.parent(5, 0), NONE);
        says("PARENTS of a BIRD are the BIRDS told by the NESTS whose young's RING is one of its");
        nest(x, 50, 3, 1, 0);
        due("a PARENT by two NESTS is one", x.parent(3, 1), 1);
        due("three PARENTS", x.parent(3, 2), 2);
        due("no fourth one", x.parent(3, 3), NONE);
        x.lose(3, 15);
        x.lose(0, 25);
        due("the young's other RING", x.join(3, 5), 0);
        due("parent(5, 0)", x.parent(5, 0), 0);
        due("parent(4, 1)", x.parent(4, 1), 3);
        x.part(0);
        due("PARTED", x.parent(5, 0), NONE);
        due("two PARENTS of one BIRD by a JOIN", x.join(0, 5), 1);
        due("parent(3, 0)", x.parent(3, 0), 0);
        due("forebear(5, 3)", x.forebear(5, 3), true);
        twoParentsOfOneBird();
        forebears();
    }

    private static void twoParentsOfOneBird() {
        BirdBook x = new BirdBook();
        x.rule(10, 14600);
        plainRings(x, 0, 5, 20);
        due("nest", nest(x, 50, 2, 0, 1), 0);
        x.lose(0, 5);
        due("the PARENTS become one BIRD", x.join(0, 1), 0);
        due("parent(2, 0)", x.parent(2, 0), 0);
        due("parent(2, 1)", x.parent(2, 1), NONE);
        due("PARTED again", x.part(0), 0);
        due("parent(2, 1)", x.parent(2, 1), 1);
    }

    private static void forebears() {
        says("its FOREBEARS are its PARENTS and theirs.");
        BirdBook x = made(EdgesOfBirdsTest::family);
        boolean[][] want = {
            {false, false, false, false, true, false}, {false, false, false, true, true, false},
            {false, false, false, true, true, false}, {false, false, false, false, true, false},
            {false, false, false, false, false, false}, {false, false, false, false, false, false}};
        for (int a = 0; a < 6; a++) {
            for (int b = 0; b < 6; b++) {
                due("forebear(" + a + ", " + b + ")", x.forebear(a, b), want[a][b]);
            }
        }
        chainsOverTheFirst();
        longChains();
    }

    /** BIRD 0 is the young of the young, then the one between the others. */
    private static void chainsOverTheFirst() {
        BirdBook young = new BirdBook();
        young.rule(10, 14600);
        plainRings(young, 20, 10, 0, 0);
        nest(young, 50, 1, 2, 3);
        nest(young, 50, 0, 1, 3);
        due("forebear(2, 0)", young.forebear(2, 0), true);
        due("forebear(0, 2)", young.forebear(0, 2), false);
        BirdBook between = new BirdBook();
        between.rule(10, 14600);
        plainRings(between, 10, 20, 0, 0);
        nest(between, 50, 1, 0, 3);
        nest(between, 50, 0, 2, 3);
        due("forebear(2, 1)", between.forebear(2, 1), true);
        due("forebear(2, 0)", between.forebear(2, 0), true);
        due("forebear(1, 2)", between.forebear(1, 2), false);
    }

    /** Chains that are told from the young end on, up and down the RINGS' numbers. */
    private static void longChains() {
        BirdBook up = new BirdBook();
        up.rule(1, 14600);
        for (int i = 0; i < 15; i++) {
            plainRing(up, i, NONE, i);
        }
        plainRing(up, 0, NONE, 50);
        for (int i = 13; i >= 1; i--) {
            due("nest", nest(up, 100, i, i - 1, i == 1 ? 50 : i - 2), 13 - i);
        }
        due("over all", up.forebear(0, 13), true);
        due("none the other way", up.forebear(13, 0), false);
        due("none of the last", up.forebear(0, 14), false);
        BirdBook down = new BirdBook();
        down.rule(1, 14600);
        for (int sign = 0; sign < 60; sign++) {
            plainRing(down, 59 - sign, NONE, sign);
        }
        for (int i = 0; i < 19; i++) {
            due("nest", nest(down, 100, i + 38, i + 39, i + 40), i);
        }
        due("over all", down.forebear(58, 38), true);
        due("none the other way", down.forebear(38, 58), false);
        due("none behind it", down.forebear(59, 38), false);
    }

    private static void wrong() {
        says("It is WRONG, if a BIRD is its own FOREBEAR; or a PARENT's BORN (HATCHED, if that is known, else PUT) "
                + "is not AGE DAYS or more ahead of the young's BORN.");
        // Each row: PUT and HATCHED of the PARENT, PUT and HATCHED of the young, and what a NEST of AGE 10 is answered.
        int[][] rows = {
            {100, NONE, 110, NONE, 0}, {100, NONE, 109, NONE, -9}, {101, NONE, 110, NONE, -9},
            {100, 90, 100, NONE, 0}, {100, 91, 100, NONE, -9}, {100, NONE, 120, 110, 0}, {100, NONE, 120, 109, -9},
            {120, 100, 130, 110, 0}, {120, 100, 130, 109, -9}, {90, NONE, 100, 100, 0}, {90, 90, 99, NONE, -9}};
        for (int[] row : rows) {
            BirdBook x = new BirdBook();
            x.rule(10, 14600);
            plainRing(x, row[0], row[1], 0);
            plainRing(x, 0, NONE, 1);
            plainRing(x, row[2], row[3], 2);
            String with = row[0] + ", " + row[1] + " of " + row[2] + ", " + row[3];
            due("PARENT " + with + " in HALF 0", nest(x, 200, 2, 0, 1), row[4]);
            due("PARENT " + with + " in HALF 1", nest(x, 200, 2, 1, 0), row[4] == 0 ? 1 : row[4]);
        }
    }

    private static void partedNow() {
        says("A JOIN of RINGS a and b makes their BIRDS one, till it is PARTED. "
                + "All answers are by the JOINS that are not PARTED now.");
        BirdBook x = new BirdBook();
        x.rule(0, 14600);
        plainRings(x, 10, 20, 0, 30);
        x.lose(0, 20);
        sight(x, 20, 0);
        pair(x, 20, half(1), 2);
        found(x, 50, 1);
        nest(x, 20, 3, 0, 2);
        x.list(0, 0);
        x.list(1, 0);
        for (int turn = 0; turn < 3; turn++) {
            if (turn > 0) {
                due("join", x.join(0, 1), turn - 1);
            }
            int one = turn > 0 ? 1 : 0;
            due("bird(1)", x.bird(1), one == 1 ? 0 : 1);
            due("death(0)", x.death(0), one == 1 ? 50 : NONE);
            due("who(1, 0, 0)", x.who(1, 0, 0), one == 1 ? 0 : 1);
            due("alive(1, 10)", x.alive(1, 10), one == 1 ? 1 : 2);
            due("alive(0, 50)", x.alive(0, 50), one == 1 ? 0 : 2);
            due("forebear(1, 3)", x.forebear(1, 3), one == 1);
            due("least()", x.least(), one == 1 ? 1 : 2);
            due("most()", x.most(), one == 1 ? 1 : 2);
            due("given(1)", x.given(1), one == 1 ? 0 : 1);
            due("there(20, 21, 22, 0)", x.there(20, 21, 22, 0), one == 1 ? 2 : 3);
            due("count(3)", x.count(3), one == 1 ? 3 : 4);
            if (turn > 0) {
                due("part", x.part(turn - 1), 0);
            }
        }
    }

    public static void main(String[] args) {
        days();
        slips();
        founds();
        fitting();
        sure();
        born();
        notAlive();
        alive();
        birds();
        kin();
        wrong();
        partedNow();
        end("the edges of BIRDS");
    }
}
