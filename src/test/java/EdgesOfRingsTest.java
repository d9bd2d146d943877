/** The edges of promises 2 to 7: the rule, the READING, RINGS and JOINS. */
public final class EdgesOfRingsTest extends Edges {

    private static void ruled(BirdBook x) {
        x.rule(100, 1000);
    }

    private static void rule() {
        says("AGE and GREATEST are these: true; false, if there is a RING, age is not 0 to 5000, or greatest not 1 to 14600.");
        int[][] allowed = {{0, 1}, {5000, 14600}, {0, 14600}, {5000, 1}, {365, 5475}};
        for (int[] one : allowed) {
            BirdBook x = made(EdgesOfRingsTest::ruled);
            due("rule(" + one[0] + ", " + one[1] + ")", x.rule(one[0], one[1]), true);
            keepsRule(x, one[0], one[1]);
        }
        int[] ages = {LEAST_INT, -1, 5001, GREATEST_INT};
        int[] greatests = {LEAST_INT, -1, 0, 14601, GREATEST_INT};
        for (int age : ages) {
            wrongRule(age, 1);
            wrongRule(age, 14600);
        }
        for (int greatest : greatests) {
            wrongRule(0, greatest);
            wrongRule(5000, greatest);
        }
        BirdBook ringed = made(EdgesOfRingsTest::ruled);
        plainRing(ringed, 14600, NONE, 99);
        due("with a RING", ringed.rule(5, 5), false);
        due("with a RING, what it is", ringed.rule(100, 1000), false);
        keepsRule(ringed, 100, 1000);
        BirdBook none = made(EdgesOfRingsTest::ruled);
        ring(none, 10, NONE, 1, 1, 1);
        sight(none, 10, 1);
        due("a refused ring() and a RECORD are no RING", none.rule(7, 8), true);
        keepsRule(none, 7, 8);
    }

    private static void wrongRule(int age, int greatest) {
        BirdBook x = made(EdgesOfRingsTest::ruled);
        due("rule(" + age + ", " + greatest + ")", x.rule(age, greatest), false);
        keepsRule(x, 100, 1000);
    }

    /** RINGS hatched GREATEST DAYS and one more ahead, and PARENTS that are AGE DAYS and one less ahead. */
    private static void keepsRule(BirdBook x, int age, int greatest) {
        int first = x.count(0);
        due("hatched " + greatest + " ahead", plainRing(x, 14600, 14600 - greatest, 1), first);
        if (greatest < 14600) {
            due("hatched one DAY more ahead", plainRing(x, 14600, 14600 - greatest - 1, 2), -2);
        }
        plainRing(x, 9000, NONE, 3);
        plainRing(x, 9000, NONE, 4);
        int young = plainRing(x, 9000 + age, NONE, 5);
        due("a PARENT AGE DAYS ahead", nest(x, 14600, young, 3, 4) >= 0, true);
        int tooOld = plainRing(x, 9000 + age - 1, NONE, 6);
        due("a PARENT not AGE DAYS ahead", nest(x, 14600, tooOld, 3, 4), -9);
    }

    private static void reading() {
        says("LEG leg of a HALF of the READING has that SIGN (NONE: it was not read): true; "
                + "false, if half is not 0 or 1, leg not 0 to 3, sign not NONE to 99.");
        Setup nothing = x -> { };
        for (int half = 0; half < 2; half++) {
            for (int leg = 0; leg < 4; leg++) {
                for (int sign : new int[] {LEAST_INT, -2, 100, GREATEST_INT}) {
                    wrongReading(nothing, half, leg, sign);
                }
                for (int sign : new int[] {0, 99, NONE}) {
                    rightReading(half, leg, sign);
                }
            }
            for (int leg : new int[] {LEAST_INT, -1, 4, GREATEST_INT}) {
                wrongReading(nothing, half, leg, 5);
            }
        }
        for (int half : new int[] {LEAST_INT, -1, 2, GREATEST_INT}) {
            wrongReading(nothing, half, 0, 5);
        }
        wrongReading(nothing, -1, 4, 5);
        wrongReading(nothing, 2, -4, 5);
        wrongReading(nothing, 0, 5, NONE);
    }

    private static void wrongReading(Setup setup, int half, int leg, int sign) {
        String call = "read(" + half + ", " + leg + ", " + sign + ")";
        refused(setup, call, x -> x.read(half, leg, sign) ? 1 : 0, 0);
    }

    /** The place has the SIGN, and the others stay. */
    private static void rightReading(int half, int leg, int sign) {
        BirdBook x = new BirdBook();
        read(read(x, 0, 50, 51, 52, 53), 1, 54, 55, 56, 57);
        due("read(" + half + ", " + leg + ", " + sign + ")", x.read(half, leg, sign), true);
        due("pair", x.pair(5), 0);
        for (int place = 0; place < 8; place++) {
            boolean meant = place == 4 * half + leg;
            due("place " + place, x.record(0, 10 + place), meant ? sign : 50 + place);
        }
    }

    private static void oneRing(BirdBook x) {
        ring(x, 10, NONE, 1, 2, 3, 4);
    }

    private static void ringing() {
        Setup setup = EdgesOfRingsTest::oneRing;
        says("-2: day is none, hatched neither NONE nor a DAY, behind day, or more than GREATEST DAYS ahead of it");
        for (int day : NO_DAYS) {
            refusedReading(setup, "ring(" + day + ", NONE)", x -> plainRing(x, day, NONE, 9), -2);
        }
        for (int hatched : new int[] {LEAST_INT, -2, 14601, GREATEST_INT}) {
            refusedReading(setup, "ring(14600, " + hatched + ")", x -> plainRing(x, 14600, hatched, 9), -2);
            refusedReading(setup, "ring(0, " + hatched + ")", x -> plainRing(x, 0, hatched, 9), -2);
        }
        refusedReading(setup, "ring(20, 21)", x -> plainRing(x, 20, 21, 9), -2);
        refusedReading(setup, "ring(0, 14600)", x -> plainRing(x, 0, 14600, 9), -2);
        refusedReading(setup, "ring(5476, 0)", x -> plainRing(x, 5476, 0, 9), -2);
        refusedReading(setup, "ring(14600, 9124)", x -> plainRing(x, 14600, 9124, 9), -2);
        says("A RING with the SIGNS of HALF 0 of the READING is PUT on that DAY on a BIRD that has none; "
                + "hatched may be NONE: its number.");
        int[][] right = {{20, 20}, {20, 19}, {20, NONE}, {5475, 0}, {5476, 1}, {14600, 9125}, {0, 0}, {14600, 14600}};
        for (int[] one : right) {
            BirdBook x = made(setup);
            due("ring(" + one[0] + ", " + one[1] + ")", plainRing(x, one[0], one[1], 9), 1);
            due("PUT", x.count(20), one[0]);
            due("HATCHED", x.count(21), one[1]);
            due("LOST", x.count(22), NONE);
            due("a BIRD that has none", x.bird(1), 1);
        }
        ringsNotAsWanted(setup);
        ringsOfOneKind(setup);
        ringsAtTheirLimit();
    }

    private static void ringsNotAsWanted(Setup setup) {
        says("-3: HALF 0 has not all SIGNS, or HALF 1 has one");
        refusedReading(setup, "nothing read", x -> x.ring(10, NONE), -3);
        refusedReading(setup, "HALF 1 alone", x -> read(x, 1, 9, 9, 9, 9).ring(10, NONE), -3);
        for (int leg = 0; leg < 4; leg++) {
            int l = leg;
            refusedReading(setup, "LEG " + l + " not read", x -> {
                read(x, 0, 9, 9, 9, 9).read(0, l, NONE);
                return x.ring(10, NONE);
            }, -3);
            refusedReading(setup, "LEG " + l + " of HALF 1 read", x -> {
                read(x, 0, 9, 9, 9, 9).read(1, l, 0);
                return x.ring(10, NONE);
            }, -3);
        }
        refusedReading(setup, "-2 comes first", x -> x.ring(-1, NONE), -2);
        refusedReading(setup, "-2 comes first", x -> x.ring(5, 6), -2);
    }

    private static void ringsOfOneKind(Setup setup) {
        says("-4: a RING has just these");
        refusedReading(setup, "the same SIGNS", x -> ring(x, 10, NONE, 1, 2, 3, 4), -4);
        refusedReading(setup, "the same SIGNS on another DAY", x -> ring(x, 90, 80, 1, 2, 3, 4), -4);
        refusedReading(setup, "-2 comes first", x -> ring(x, 14601, NONE, 1, 2, 3, 4), -2);
        refusedReading(setup, "-3 comes first", x -> {
            x.read(1, 3, 0);
            return ring(x, 10, NONE, 1, 2, 3, 4);
        }, -3);
    }

    private static void sixty(BirdBook x) {
        for (int sign = 0; sign < 60; sign++) {
            plainRing(x, sign, NONE, sign);
        }
    }

    private static void ringsAtTheirLimit() {
        says("-8: there are 60.");
        Setup setup = EdgesOfRingsTest::sixty;
        due("the 60th", made(setup).count(0), 60);
        refusedReading(setup, "the 61st", x -> plainRing(x, 10, NONE, 60), -8);
        refusedReading(setup, "-4 comes first", x -> plainRing(x, 10, NONE, 59), -4);
        refusedReading(setup, "-3 comes first", x -> ring(x, 10, NONE, 60, 60, 60), -3);
        refusedReading(setup, "-2 comes first", x -> plainRing(x, -1, NONE, 60), -2);
        refusedReading(x -> {
            sixty(x);
            x.lose(0, 5);
            x.join(0, 6);
        }, "the 61st, of 59 BIRDS", x -> plainRing(x, 10, NONE, 60), -8);
    }

    private static void losing() {
        Setup setup = x -> plainRings(x, 10, 20);
        says("-2: there is no such RING, or day is none");
        for (int ring : new int[] {LEAST_INT, -1, 2, 60, GREATEST_INT}) {
            refused(setup, "lose(" + ring + ", 20)", x -> x.lose(ring, 20), -2);
        }
        for (int day : NO_DAYS) {
            refused(setup, "lose(0, " + day + ")", x -> x.lose(0, day), -2);
        }
        says("-3: it was PUT behind that");
        refused(setup, "lose(0, 9)", x -> x.lose(0, 9), -3);
        refused(setup, "lose(1, 0)", x -> x.lose(1, 0), -3);
        says("The RING is LOST on that DAY: 0.");
        for (int day : new int[] {10, 11, 14600}) {
            BirdBook x = made(setup);
            due("lose(0, " + day + ")", x.lose(0, day), 0);
            due("LOST", x.count(12), day);
            due("LOST of the other one", x.count(22), NONE);
        }
        says("-4: it is LOST.");
        Setup lost = x -> {
            setup.on(x);
            x.lose(0, 15);
        };
        refused(lost, "lose(0, 15)", x -> x.lose(0, 15), -4);
        refused(lost, "lose(0, 10)", x -> x.lose(0, 10), -4);
        refused(lost, "lose(0, 14600)", x -> x.lose(0, 14600), -4);
        refused(lost, "-3 comes first", x -> x.lose(0, 9), -3);
        refused(lost, "-2 comes first", x -> x.lose(0, -1), -2);
        refused(x -> {
            setup.on(x);
            x.lose(0, 10);
        }, "LOST on its PUT", x -> x.lose(0, 10), -4);
        due("the other one", made(lost).lose(1, 20), 0);
    }

    /** RINGS 0 to 4; RING 0 is LOST on 20. */
    private static void someToJoin(BirdBook x) {
        x.rule(0, 14600);
        plainRings(x, 10, 19, 20, 21, 60);
        x.lose(0, 20);
    }

    private static void joining() {
        Setup setup = EdgesOfRingsTest::someToJoin;
        says("RINGS a and b, which was PUT on the DAY on which a was LOST or behind that, are of one BIRD: "
                + "the JOIN's number (from 0 on).");
        for (int b = 2; b < 5; b++) {
            BirdBook x = made(setup);
            due("join(0, " + b + ")", x.join(0, b), 0);
            due("bird(" + b + ")", x.bird(b), 0);
            due("JOINS", x.count(2), 1);
            due("BIRDS", x.count(3), 4);
        }
        BirdBook several = made(setup);
        due("the first", several.join(0, 2), 0);
        due("the second", several.join(0, 3), 1);
        due("a refused one", several.join(0, 1), -3);
        due("the third", several.join(0, 4), 2);
        says("-2: there is no such RING (a or b)");
        for (int ring : new int[] {LEAST_INT, -1, 5, 60, GREATEST_INT}) {
            refused(setup, "join(0, " + ring + ")", x -> x.join(0, ring), -2);
            refused(setup, "join(" + ring + ", 2)", x -> x.join(ring, 2), -2);
            refused(setup, "join of it with itself", x -> x.join(ring, ring), -2);
            refused(setup, "join(1, " + ring + "), of none that is LOST", x -> x.join(1, ring), -2);
        }
        joinsOfOneBird(setup);
        joinsNotAsWanted(setup);
        joinsOfTheDead();
        wrongJoins();
        joinsAtTheirLimit();
    }

    private static void joinsOfOneBird(Setup setup) {
        says("-4: they are of one BIRD");
        refused(setup, "a LOST RING with itself", x -> x.join(0, 0), -4);
        refused(setup, "-4 comes ahead of -3: not LOST", x -> x.join(1, 1), -4);
        Setup joined = x -> {
            setup.on(x);
            x.join(0, 2);
            x.join(0, 3);
            found(x, 100, 3);
        };
        refused(joined, "again", x -> x.join(0, 2), -4);
        refused(joined, "the other way, though 2 is not LOST", x -> x.join(2, 0), -4);
        refused(joined, "over a third RING", x -> x.join(2, 3), -4);
        BirdBook x = made(joined);
        x.part(0);
        due("PARTED", x.join(0, 2), 2);
    }

    private static void joinsNotAsWanted(Setup setup) {
        says("-3: a is not LOST, or b was PUT ahead of that");
        refused(setup, "a is not LOST", x -> x.join(1, 2), -3);
        refused(setup, "b is LOST, a not", x -> x.join(4, 0), -3);
        refused(setup, "b was PUT a DAY ahead", x -> x.join(0, 1), -3);
        Setup dead = x -> {
            setup.on(x);
            found(x, 19, 1);
            found(x, 20, 0);
        };
        refused(dead, "-3 comes ahead of -5: a is not LOST", x -> x.join(1, 2), -3);
        refused(dead, "-3 comes ahead of -5: b was PUT ahead", x -> x.join(0, 1), -3);
    }

    private static void joinsOfTheDead() {
        says("-5: the BIRD of one has a DEATH that is ahead of the PUT of a RING of the other's");
        Setup setup = EdgesOfRingsTest::someToJoin;
        refused(x -> {
            setup.on(x);
            found(x, 20, 0);
        }, "a is dead a DAY ahead of b's PUT", x -> x.join(0, 3), -5);
        BirdBook same = made(setup);
        found(same, 20, 0);
        due("a is dead on b's PUT", same.join(0, 2), 0);
        due("death(2)", same.death(2), 20);
        // The BIRD of b has a RING more, which was PUT behind a's DEATH.
        Setup later = x -> {
            setup.on(x);
            x.lose(2, 21);
            x.join(2, 4);
            found(x, 20, 0);
        };
        refused(later, "a is dead ahead of a RING of b's BIRD", x -> x.join(0, 2), -5);
        // The BIRD of b is dead ahead of the PUT of a RING of a's.
        Setup other = x -> {
            setup.on(x);
            x.join(0, 4);
            found(x, 59, 2);
        };
        refused(other, "b's BIRD is dead ahead of a RING of a's", x -> x.join(0, 2), -5);
        Setup onIt = x -> {
            setup.on(x);
            x.join(0, 4);
            found(x, 60, 2);
        };
        BirdBook even = made(onIt);
        due("b's BIRD is dead on the PUT of a RING of a's", even.join(0, 2), 1);
        due("death(4)", even.death(4), 60);
        BirdBook none = made(setup);
        found(none, 9, 0);
        due("a FOUND that does not COUNT", none.join(0, 4), 0);
    }

    /** 0 and 1 are the PARENTS of 2, and 2 and 3 those of 4; AGE is 10. */
    private static void kin(BirdBook x) {
        x.rule(10, 14600);
        plainRings(x, 0, 0, 20, 20, 40, 41, 30, 10);
        nest(x, 50, 2, 0, 1);
        nest(x, 50, 4, 2, 3);
    }

    private static void wrongJoins() {
        says("-9: it would be WRONG");
        refused(x -> {
            kin(x);
            x.lose(0, 15);
        }, "a BIRD that is its own PARENT", x -> x.join(0, 2), -9);
        refused(x -> {
            kin(x);
            x.lose(0, 15);
        }, "a BIRD that is its own PARENT's PARENT", x -> x.join(0, 4), -9);
        BirdBook x = made(EdgesOfRingsTest::kin);
        x.lose(7, 15);
        due("a young that is born AGE behind its PARENTS", x.join(7, 2), 0);
        due("parent(7, 0)", x.parent(7, 0), 0);
        refused(b -> {
            b.rule(10, 14600);
            plainRings(b, 0, 0, 20, 9);
            nest(b, 50, 2, 0, 1);
            b.lose(3, 9);
        }, "a young that is born a DAY too early", b -> b.join(3, 2), -9);
        refused(b -> {
            kin(b);
            plainRing(b, 60, 31, 8);
            b.lose(2, 55);
        }, "a PARENT that HATCHED a DAY too late", b -> b.join(2, 8), -9);
        BirdBook y = made(EdgesOfRingsTest::kin);
        plainRing(y, 60, 30, 8);
        y.lose(2, 55);
        due("a PARENT that HATCHED just in time", y.join(2, 8), 0);
        says("-5: the BIRD of one has a DEATH that is ahead of the PUT of a RING of the other's; -9: it would be WRONG");
        refused(EdgesOfRingsTest::kin, "-3 comes ahead of -9: not LOST", b -> b.join(0, 2), -3);
        refused(b -> {
            kin(b);
            b.lose(2, 25);
        }, "-3 comes ahead of -9: PUT ahead", b -> b.join(2, 0), -3);
        refused(b -> {
            kin(b);
            b.lose(0, 15);
            found(b, 15, 0);
        }, "-5 comes ahead of -9", b -> b.join(0, 2), -5);
    }

    /** 60 JOINS, all PARTED; RINGS 2 and 3 are the PARENTS of 4, and 2 is LOST. */
    private static void sixtyJoins(BirdBook x) {
        x.rule(0, 14600);
        plainRings(x, 0, 10, 20, 30, 40);
        x.lose(0, 10);
        nest(x, 50, 4, 2, 3);
        x.lose(2, 40);
        for (int i = 0; i < 60; i++) {
            x.join(0, 1);
            x.part(i);
        }
    }

    private static void joinsAtTheirLimit() {
        says("-8: there are 60 (PARTED ones, too).");
        Setup setup = EdgesOfRingsTest::sixtyJoins;
        due("JOINS", made(setup).count(2), 60);
        refused(setup, "the 61st", x -> x.join(0, 1), -8);
        refused(setup, "-9 comes first", x -> x.join(2, 4), -9);
        refused(setup, "-4 comes first", x -> x.join(0, 0), -4);
        refused(setup, "-3 comes first", x -> x.join(1, 2), -3);
        refused(setup, "-2 comes first", x -> x.join(0, 5), -2);
        refused(x -> {
            sixtyJoins(x);
            found(x, 5, 0);
        }, "-5 comes first", x -> x.join(0, 1), -5);
        BirdBook x = new BirdBook();
        plainRings(x, 0, 10);
        x.lose(0, 10);
        for (int i = 0; i < 59; i++) {
            x.join(0, 1);
            x.part(i);
        }
        due("the 60th", x.join(0, 1), 59);
        due("and it holds", x.bird(1), 0);
        due("it can be PARTED", x.part(59), 0);
        due("bird(1)", x.bird(1), 1);
    }

    private static void parting() {
        Setup setup = x -> {
            x.rule(0, 14600);
            plainRings(x, 0, 10, 20);
            x.lose(0, 10);
            x.lose(1, 20);
            x.join(0, 1);
            x.join(1, 2);
        };
        says("A JOIN is PARTED: 0.");
        BirdBook first = made(setup);
        due("part(0)", first.part(0), 0);
        due("bird(0)", first.bird(0), 0);
        due("bird(1)", first.bird(1), 1);
        due("bird(2)", first.bird(2), 1);
        due("JOINS", first.count(2), 2);
        BirdBook last = made(setup);
        due("part(1)", last.part(1), 0);
        due("bird(1)", last.bird(1), 0);
        due("bird(2)", last.bird(2), 2);
        says("-2: there is no such JOIN");
        for (int join : new int[] {LEAST_INT, -1, 2, 59, 60, 61, GREATEST_INT}) {
            refused(setup, "part(" + join + ")", x -> x.part(join), -2);
        }
        refused(x -> plainRings(x, 0, 10), "part(0) without a JOIN", x -> x.part(0), -2);
        says("-4: it is");
        refused(x -> {
            setup.on(x);
            x.part(0);
        }, "part(0) again", x -> x.part(0), -4);
        wrongPartings();
    }

    private static void wrongPartings() {
        says("-9: it would be WRONG.");
        // RING 1, PUT on 11, is a PARENT of a young of 20 only as long as its BIRD is born on 0.
        Setup young = x -> {
            x.rule(10, 14600);
            plainRings(x, 0, 11, 0, 20);
            x.lose(0, 5);
            x.join(0, 1);
            nest(x, 20, 3, 1, 2);
        };
        refused(young, "the PARENT would be born a DAY too late", x -> x.part(0), -9);
        BirdBook even = new BirdBook();
        even.rule(10, 14600);
        plainRings(even, 0, 10, 0, 20);
        even.lose(0, 5);
        even.join(0, 1);
        nest(even, 20, 3, 1, 2);
        due("the PARENT would be born just in time", even.part(0), 0);
        due("parent(3, 0)", even.parent(3, 0), 1);
        // RING 2, PUT on 55, is a young of PARENTS of 50 only as long as its BIRD has HATCHED on 60.
        Setup hatched = x -> {
            x.rule(10, 14600);
            plainRings(x, 50, 50, 55);
            plainRing(x, 70, 60, 3);
            x.lose(2, 55);
            x.join(2, 3);
            nest(x, 80, 2, 0, 1);
        };
        due("by HATCHED the young is born on 60", made(hatched).parent(2, 0), 0);
        refused(hatched, "the young would be born on 55", x -> x.part(0), -9);
    }

    public static void main(String[] args) {
        rule();
        reading();
        ringing();
        losing();
        joining();
        parting();
        end("the edges of the rule, the READING, RINGS and JOINS");
    }
}
