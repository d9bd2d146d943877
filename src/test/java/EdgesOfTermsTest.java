/** The edges that the document's Terms name, and what it says of each refused call and of all memory. */
public final class EdgesOfTermsTest extends Edges {

    private static void twoRings(BirdBook x) {
        x.rule(0, 14600);
        plainRings(x, 0, 0, 0);
    }

    private static void newBook() {
        says("No RINGS, RECORDS, ROWS; nothing is read.");
        BirdBook x = new BirdBook();
        for (int what = 0; what < 30; what++) {
            due("count(" + what + ")", x.count(what), what < 6 ? 0 : NONE);
        }
        due("lose(0, 0)", x.lose(0, 0), -2);
        due("join(0, 0)", x.join(0, 0), -2);
        due("part(0)", x.part(0), -2);
        due("fits(0, 0)", x.fits(0, 0), -2);
        due("who(0, 0, 0)", x.who(0, 0, 0), NONE);
        due("nearest(0, 0)", x.nearest(0, 0), NONE);
        due("bird(0)", x.bird(0), NONE);
        due("death(0)", x.death(0), NONE);
        due("alive(0, 0)", x.alive(0, 0), NONE);
        due("parent(0, 0)", x.parent(0, 0), NONE);
        due("forebear(0, 0)", x.forebear(0, 0), false);
        due("list(0, 0)", x.list(0, 0), -2);
        due("empty()", x.empty(), 0);
        due("least()", x.least(), 0);
        due("most()", x.most(), 0);
        due("given(0)", x.given(0), NONE);
        due("there(0, 1, 1, 3)", x.there(0, 1, 1, 3), 0);
        due("record(0, 0)", x.record(0, 0), NONE);
        due("noted(0)", x.noted(0), 0);
        due("tallied(0, 0)", x.tallied(0, 0), 0);
        due("copy(0, 0, 0, 0, 0)", x.copy(0, 0, 0, 0, 0), -5);
        due("nest(0, 0)", x.nest(0, 0), -2);
        due("rule(365, 5475)", x.rule(365, 5475), true);
        due("NONE", NONE, -1);
    }

    private static void days() {
        says("DAYS are 0 to 14600.");
        for (int day : NO_DAYS) {
            refusedReading(EdgesOfTermsTest::twoRings, "ring(" + day + ")", x -> plainRing(x, day, NONE, 9), -2);
            refused(EdgesOfTermsTest::twoRings, "lose(0, " + day + ")", x -> x.lose(0, day), -2);
            refusedReading(EdgesOfTermsTest::twoRings, "caught(" + day + ")", x -> caught(x, day, 0), -2);
            refusedReading(EdgesOfTermsTest::twoRings, "sight(" + day + ")", x -> sight(x, day, 0), -2);
            refusedReading(EdgesOfTermsTest::twoRings, "pair(" + day + ")", x -> pair(x, day, half(0), 1), -2);
            refusedReading(EdgesOfTermsTest::twoRings, "nest(" + day + ")", x -> nest(x, day, 2, 0, 1), -2);
            refusedReading(EdgesOfTermsTest::twoRings, "found(" + day + ")", x -> found(x, day, 0), -2);
            BirdBook x = made(EdgesOfTermsTest::twoRings);
            due("alive(0, " + day + ")", x.alive(0, day), NONE);
            due("there(" + day + ", 5, 6, 0)", x.there(day, 5, 6, 0), NONE);
            due("there(5, " + day + ", 7, 0)", x.there(5, day, 7, 0), NONE);
            due("there(5, 6, " + day + ", 0)", x.there(5, 6, day, 0), NONE);
        }
        for (int day : new int[] {0, 14600}) {
            BirdBook x = made(EdgesOfTermsTest::twoRings);
            due("ring(" + day + ", NONE)", plainRing(x, day, NONE, 9), 3);
            due("ring(" + day + ", " + day + ")", plainRing(x, day, day, 10), 4);
            due("caught(" + day + ")", caught(x, day, 0), 0);
            due("sight(" + day + ")", sight(x, day, 0), 1);
            due("pair(" + day + ")", pair(x, day, half(0), 1), 2);
            due("nest(" + day + ")", nest(x, day, 2, 0, 1), 3);
            due("found(" + day + ")", found(x, day, 0), 4);
            due("lose(1, " + day + ")", x.lose(1, day), 0);
            due("count(22)", x.count(22), day);
            due("death(0)", x.death(0), day);
            due("alive(0, " + day + ")", x.alive(0, day), 0);
            due("alive(1, " + day + ")", x.alive(1, day), 1);
            for (int record = 0; record < 5; record++) {
                due("record(" + record + ", 1)", x.record(record, 1), day);
            }
        }
        BirdBook x = made(EdgesOfTermsTest::twoRings);
        due("there(0, 1, 14600, 0)", x.there(0, 1, 14600, 0), 3);
        due("there(14599, 14600, 14600, 0)", x.there(14599, 14600, 14600, 0), 3);
        due("there(14600, 14601, 14601, 0)", x.there(14600, 14601, 14601, 0), NONE);
    }

    private static void signs() {
        says("A SIGN is 0 to 99.");
        BirdBook x = new BirdBook();
        due("ring of SIGNS 0", plainRing(x, 10, NONE, 0), 0);
        due("ring of SIGNS 99", plainRing(x, 10, NONE, 99), 1);
        due("SIGN 0 alone was read", sight(x, 10, 0), 0);
        due("record(0, 10)", x.record(0, 10), 0);
        due("it is RING 0's", x.who(0, 0, 0), 0);
        due("and no other's", x.fits(0, 0), 1);
        due("SIGN 99", x.who(sight(x, 10, NONE, NONE, NONE, 99), 0, 0), 1);
        for (int leg = 0; leg < 4; leg++) {
            due("SIGN of RING 0", x.count(13 + leg), 0);
            due("SIGN of RING 1", x.count(23 + leg), 99);
        }
    }

    private static void rings() {
        says("RINGS, from 0 on, 60 at most, have four SIGNS (on LEGS 0 to 3; no two RINGS all the same)");
        BirdBook x = new BirdBook();
        due("the first", ring(x, 10, NONE, 1, 2, 3, 4), 0);
        due("another SIGN on LEG 0", ring(x, 10, NONE, 5, 2, 3, 4), 1);
        due("another SIGN on LEG 1", ring(x, 10, NONE, 1, 5, 3, 4), 2);
        due("another SIGN on LEG 2", ring(x, 10, NONE, 1, 2, 5, 4), 3);
        due("another SIGN on LEG 3", ring(x, 10, NONE, 1, 2, 3, 5), 4);
        due("the same SIGNS on other LEGS", ring(x, 10, NONE, 4, 3, 2, 1), 5);
        due("all the same", ring(x, 20, 5, 1, 2, 3, 4), -4);
        x.lose(0, 10);
        due("all the same as a LOST one", ring(x, 20, NONE, 1, 2, 3, 4), -4);
        read(x, 0, 4, 3, 2, 1).found(10);
        due("all the same as a dead BIRD's", ring(x, 20, NONE, 4, 3, 2, 1), -4);
        for (int ring = 6; ring < 60; ring++) {
            due("RING " + ring, plainRing(x, ring, NONE, ring), ring);
        }
        due("a RING more", plainRing(x, 1, NONE, 60), -8);
        due("RINGS", x.count(0), 60);
        due("the last one's PUT", x.count(600), 59);
        due("the last one's SIGN", x.count(606), 59);
        due("the last one is a BIRD", x.bird(59), 59);
    }

    private static void numbers() {
        says("A BIRD has one RING or, by JOINS, several; its NUMBER is the least of them.");
        BirdBook x = new BirdBook();
        plainRings(x, 30, 20, 10);
        due("one RING", x.bird(2), 2);
        x.lose(2, 15);
        x.lose(1, 25);
        due("the later one has the lesser number", x.join(2, 1), 0);
        due("bird(2)", x.bird(2), 1);
        due("bird(1)", x.bird(1), 1);
        due("and a third RING", x.join(1, 0), 1);
        for (int ring = 0; ring < 3; ring++) {
            due("bird(" + ring + ")", x.bird(ring), 0);
        }
        due("BIRDS", x.count(3), 1);
    }

    private static void firstRules() {
        says("AGE and GREATEST are numbers of DAYS (365 and 5475 at first).");
        BirdBook x = new BirdBook();
        due("hatched 5475 ahead", plainRing(x, 5475, 0, 0), 0);
        due("hatched 5476 ahead", plainRing(x, 5476, 0, 1), -2);
        plainRing(x, 6000, NONE, 1);
        plainRing(x, 6364, NONE, 2);
        plainRing(x, 6365, NONE, 3);
        due("a PARENT 364 DAYS ahead", nest(x, 6400, 2, 0, 1), -9);
        due("a PARENT 365 DAYS ahead", nest(x, 6400, 3, 0, 1), 0);
        due("5475 ahead of PUT", x.alive(1, 525), 2);
        due("5476 ahead of PUT", x.alive(1, 524), 0);
        due("5475 behind BORN", x.alive(1, 11475), 2);
        due("5476 behind BORN", x.alive(1, 11476), 0);
    }

    private static void readingAtFirst() {
        says("nothing is read at first");
        BirdBook x = new BirdBook();
        due("ring", x.ring(10, NONE), -3);
        due("caught", new BirdBook().caught(10, 1f), -3);
        due("sight", new BirdBook().sight(10), -3);
        due("pair", new BirdBook().pair(10), -3);
        due("found", new BirdBook().found(10), -3);
        for (int place = 0; place < 8; place++) {
            BirdBook y = new BirdBook();
            for (int other = 0; other < 8; other++) {
                if (other != place) {
                    y.read(other / 4, other % 4, 1);
                }
            }
            due("place " + place + " of a PAIR", y.record(y.pair(1), 10 + place), NONE);
        }
    }

    /** Reads both HALVES whole, calls, and asks each LEG of what is read then. */
    private static void takesReading(String name, Setup setup, Call call, long want) {
        refusedReading(setup, name, x -> {
            read(read(x, 0, 71, 72, 73, 74), 1, 75, 76, 77, 78);
            return call.on(x);
        }, want);
    }

    private static void readingTaken() {
        says("and behind each ring(), caught(), sight(), pair(), nest(), found(), whatever came of it.");
        Setup setup = EdgesOfTermsTest::twoRings;
        takesReading("ring, -2", setup, x -> x.ring(-1, NONE), -2);
        takesReading("ring, -3", setup, x -> x.ring(10, NONE), -3);
        takesReading("caught, -2", setup, x -> x.caught(10, -1f), -2);
        takesReading("caught, -3", setup, x -> x.caught(10, 1f), -3);
        takesReading("sight, -2", setup, x -> x.sight(-1), -2);
        takesReading("sight, -3", setup, x -> x.sight(10), -3);
        takesReading("pair, -2", setup, x -> x.pair(-1), -2);
        takesReading("nest, -2", setup, x -> x.nest(-1, 0), -2);
        takesReading("nest, no such RING", setup, x -> x.nest(10, 3), -2);
        takesReading("nest, -5", setup, x -> x.nest(10, 2), -5);
        takesReading("found, -2", setup, x -> x.found(-1), -2);
        takesReading("found, -3", setup, x -> x.found(10), -3);
        readingTakenByWhatIsDone();
    }

    private static void readingTakenByWhatIsDone() {
        Call[] done = {x -> plainRing(x, 10, NONE, 9), x -> caught(x, 10, 0), x -> sight(x, 10, 0),
            x -> pair(x, 10, half(0), 1), x -> nest(x, 10, 2, 0, 1), x -> found(x, 10, 0)};
        for (int call = 0; call < done.length; call++) {
            for (int place = 0; place < 8; place++) {
                BirdBook x = made(EdgesOfTermsTest::twoRings);
                due("call " + call, done[call].on(x), call == 0 ? 3 : 0);
                for (int other = 0; other < 8; other++) {
                    if (other != place) {
                        x.read(other / 4, other % 4, 1);
                    }
                }
                due("place " + place + " behind call " + call, x.record(x.pair(10), 10 + place), NONE);
            }
        }
        says("The READING has two HALVES, 0 and 1, of four SIGNS each, or what was not read");
        BirdBook x = made(EdgesOfTermsTest::twoRings);
        read(read(x, 0, 71, 72, 73, 74), 1, 75, 76, 77, 78);
        x.note(5);
        x.lose(0, 10);
        x.list(0, 0);
        x.empty();
        x.watch(0, 0, 1);
        due("other calls leave it", x.pair(10), 1);
        for (int place = 0; place < 8; place++) {
            due("place " + place, x.record(1, 10 + place), 71 + place);
        }
    }

    private static void recordsAtTheirLimit() {
        says("RECORDS, from 0 on, 300 at most, have a KIND, a DAY, and one HALF or two, of what was read");
        Call[] kinds = {x -> caught(x, 10, 0), x -> sight(x, 10, 0), x -> pair(x, 10, half(0), 1),
            x -> nest(x, 10, 2, 0, 1), x -> found(x, 10, 0), x -> x.note(7)};
        int[] halves = {1, 1, 2, 2, 1, 0};
        for (int kind = 0; kind < kinds.length; kind++) {
            BirdBook x = made(EdgesOfTermsTest::twoRings);
            due("the first of KIND " + kind, kinds[kind].on(x), 0);
            notes(x, 298);
            due("the 300th of KIND " + kind, kinds[kind].on(x), 299);
            due("one more", kinds[kind].on(x), -8);
            due("RECORDS", x.count(1), 300);
            due("KIND", x.record(299, 0), kind);
            due("HALVES", x.record(299, 6), halves[kind]);
            due("KIND of the first", x.record(0, 0), kind);
            due("no RECORD behind it", x.record(300, 0), NONE);
        }
    }

    private static void whatKindsWant() {
        Setup setup = EdgesOfTermsTest::twoRings;
        for (int leg = 0; leg < 4; leg++) {
            int l = leg;
            says("0 CATCH (one HALF, all SIGNS; a weight in tenths)");
            refusedReading(setup, "without LEG " + l, x -> readBut(x, 0, l).caught(10, 1f), -3);
            refusedReading(setup, "with LEG " + l + " of HALF 1", x -> readAlso(x, l).caught(10, 1f), -3);
            says("4 FOUND (one HALF, all SIGNS: the BIRD is dead)");
            refusedReading(setup, "without LEG " + l, x -> readBut(x, 0, l).found(10), -3);
            refusedReading(setup, "with LEG " + l + " of HALF 1", x -> readAlso(x, l).found(10), -3);
            says("1 SIGHT (one HALF, at least one SIGN)");
            due("LEG " + l + " alone", readOne(made(setup), 0, l).sight(10), 0);
            refusedReading(setup, "with LEG " + l + " of HALF 1", x -> readAlso(x, l).sight(10), -3);
            says("2 PAIR (two HALVES, each with at least one SIGN)");
            due("LEG " + l + " alone in each", readOne(readOne(made(setup), 0, l), 1, 3 - l).pair(10), 0);
            refusedReading(setup, "HALF 0 alone", x -> readOne(x, 0, l).pair(10), -3);
            refusedReading(setup, "HALF 1 alone", x -> readOne(x, 1, l).pair(10), -3);
            says("3 NEST (likewise, and the young's RING)");
            due("LEG " + l + " alone in each", nestByOne(made(setup), l), 0);
            refusedReading(setup, "HALF 0 alone", x -> readOne(x, 0, l).nest(10, 2), -3);
            refusedReading(setup, "HALF 1 alone", x -> readOne(x, 1, l).nest(10, 2), -3);
        }
        says("0 CATCH (one HALF, all SIGNS; a weight in tenths)");
        refusedReading(setup, "HALF 1 for HALF 0", x -> read(x, 1, 0, 0, 0, 0).caught(10, 1f), -3);
        says("4 FOUND (one HALF, all SIGNS: the BIRD is dead)");
        refusedReading(setup, "HALF 1 for HALF 0", x -> read(x, 1, 0, 0, 0, 0).found(10), -3);
        says("1 SIGHT (one HALF, at least one SIGN)");
        refusedReading(setup, "HALF 1 for HALF 0", x -> read(x, 1, 0).sight(10), -3);
        refusedReading(setup, "nothing", x -> x.sight(10), -3);
        says("5 NOTE: a number alone, of no DAY, no HALF.");
        BirdBook x = made(setup);
        due("note", x.note(3), 0);
        due("DAY", x.record(0, 1), NONE);
        due("HALVES", x.record(0, 6), 0);
        due("fits(0, 0)", x.fits(0, 0), -2);
        due("nearest(0, 0)", x.nearest(0, 0), NONE);
    }

    private static BirdBook readBut(BirdBook x, int half, int unread) {
        read(x, half, 0, 0, 0, 0).read(half, unread, NONE);
        return x;
    }

    private static BirdBook readAlso(BirdBook x, int leg) {
        read(x, 0, 0, 0, 0, 0).read(1, leg, 0);
        return x;
    }

    private static BirdBook readOne(BirdBook x, int half, int leg) {
        x.read(half, leg, half);
        return x;
    }

    private static int nestByOne(BirdBook x, int leg) {
        return readOne(readOne(x, 0, leg), 1, 3 - leg).nest(10, 2);
    }

    private static void rowsAtFirst() {
        says("DAYS have ROWS of numbers, watched: of WIDTH 0 bytes, 1 shorts, 2 ints, 3 longs; at first none.");
        BirdBook x = new BirdBook();
        for (int day = 0; day < 200; day++) {
            due("tally(" + day + ", 0, 1)", x.tally(day, 0, 1), -5);
            due("tear(" + day + ")", x.tear(day), false);
        }
    }

    private static void ownMemory() {
        says("All memory is the book's own.");
        BirdBook x = new BirdBook();
        BirdBook y = new BirdBook();
        x.rule(0, 14600);
        plainRings(x, 0, 0, 0, 5);
        x.lose(0, 5);
        x.join(0, 3);
        nest(x, 5, 2, 3, 1);
        found(x, 9, 3);
        x.list(0, 0);
        x.watch(0, 3, 5);
        x.tally(0, 0, 5);
        read(x, 0, 1, 1, 1, 1);
        due("another book's READING", y.sight(1), -3);
        for (int what = 0; what < 30; what++) {
            due("another book's count(" + what + ")", y.count(what), what < 6 ? 0 : NONE);
        }
        due("another book's ROW", y.tally(0, 0, 1), -5);
        due("another book's rule", y.rule(5, 5), true);
        plainRings(y, 7, 8);
        due("another book's BIRD", y.death(0), NONE);
        due("RINGS", x.count(0), 4);
        due("PUT", x.count(10), 0);
        due("DEATH", x.death(0), 9);
        due("PARENT", x.parent(2, 0), 0);
        due("the READING", x.sight(1), 2);
        due("the READING", x.record(2, 10), 1);
    }

    private static void calls() {
        says("An object is used for at most 512 calls after it has been made");
        BirdBook x = new BirdBook();
        for (int call = 1; call <= 300; call++) {
            x.note(call);
        }
        for (int call = 301; call <= 511; call++) {
            x.watch(0, 3, 100);
        }
        due("the 512th", x.noted(299), 300);
        BirdBook y = new BirdBook();
        for (int call = 1; call <= 510; call++) {
            due("read", y.read(0, call % 4, call % 100), true);
        }
        due("the 511th", y.sight(5), 0);
        due("the 512th", y.record(0, 10 + 510 % 4), 510 % 100);
    }

    public static void main(String[] args) {
        newBook();
        days();
        signs();
        rings();
        numbers();
        firstRules();
        readingAtFirst();
        readingTaken();
        recordsAtTheirLimit();
        whatKindsWant();
        rowsAtFirst();
        ownMemory();
        calls();
        end("the edges of the Terms");
    }
}
