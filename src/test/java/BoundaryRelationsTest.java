/** The sentences of the document that name a boundary case of promise 7 and the RELATIONS, one test for each. */
public final class BoundaryRelationsTest extends ByHand {

    private static final int SAME = 0;
    private static final int ABOVE = 1;
    private static final int NOT_BELOW = 2;
    private static final int MEET = 3;
    private static final int NOT_SAME = 4;
    private static final int GREATER = 5;
    private static final int NOT_LESS = 6;
    private static final int BELOW = 7;
    private static final int NOT_ABOVE = 8;
    private static final int LESS = 9;
    private static final int NOT_GREATER = 10;
    private static final int NOT_MEET = 11;
    private static final int RELATIONS = 12;

    private static final int[] SIGNED = {GREATER, NOT_LESS, LESS, NOT_GREATER};
    private static final int[] NOT_SIGNED = {SAME, ABOVE, NOT_BELOW, MEET, NOT_SAME, BELOW, NOT_ABOVE, NOT_MEET};
    private static final int[] WRONG_RELATIONS = {-1, 12, 13, 16, 256, Integer.MIN_VALUE, Integer.MAX_VALUE};

    private static final Setting[] MANY = {
        exact(0), exact(1), exact(7), exact(8), exact(MOST), exact(MOST - 1), exact(MIN), exact(MIN + 1), exact(MAX),
        exact(MAX - 1), exact(LOW), exact(LOW + 1), exact(TWO_31), any(), bits(0, 15), bits(1, -2), bits(MIN, MAX),
        unsigned(0, 1), unsigned(5, 9), unsigned(MAX, MIN), unsigned(MOST - 1, MOST), signed(-1, 0), signed(-5, 3),
        signed(MIN, MIN + 1), signed(MAX - 1, MAX), unsigned(0, LOW), unsigned(3, LOW + 1), hollow(), sevenAlone()};

    public static void main(String[] args) {
        calls();
        order();
        sameness();
        meeting();
        settled();
        narrowOnes();
        CHECK.end();
    }

    private static void calls() {
        CHECK.sentence("Promise 7", "WHAT A RELATION (0 .. 11) TELLS comes to x and y: true;",
                BoundaryRelationsTest::noSuchRelation);
        CHECK.sentence("Promise 7", "false if it can't hold (they are as they were then),",
                BoundaryRelationsTest::asTheyWere);
        CHECK.sentence("Promise 7", "or x is y, or there are no such ones.",
                BoundaryRelationsTest::xIsY);
        CHECK.sentence("Promise 7", "or there are no such ones.",
                BoundaryRelationsTest::noSuchNumbers);
        CHECK.sentence("Promise 7, RELATIONS", "0 SAME, 1 ABOVE, 2 NOT BELOW (both unsigned), 3 MEET (x AND y is not 0),"
                + " 4 NOT SAME, 5 GREATER, 6 NOT LESS (both signed), 7 BELOW, 8 NOT ABOVE (unsigned), 9 LESS,"
                + " 10 NOT GREATER (signed), 11 NOT MEET.",
                BoundaryRelationsTest::relationsOfExactOnes);
    }

    private static void order() {
        CHECK.sentence("Promise 7, ABOVE", "ABOVE: x's unsigned least is the greater of it and y's least + 1,"
                + " y's greatest the lesser of it and x's greatest - 1;",
                BoundaryRelationsTest::above);
        CHECK.sentence("Promise 7, ABOVE", "EMPTY, if y's least is MOST, or x's greatest is 0.",
                BoundaryRelationsTest::aboveMostAndBelowZero);
        CHECK.sentence("Promise 7, NOT BELOW",
                "NOT BELOW: x's least: the greater of both least, y's greatest: the lesser of both greatest.",
                BoundaryRelationsTest::notBelow);
        CHECK.sentence("Promise 7, BELOW, NOT ABOVE", "BELOW, NOT ABOVE: the same with x and y turned.",
                BoundaryRelationsTest::belowIsAboveTurned);
        CHECK.sentence("Promise 7, GREATER, NOT LESS", "GREATER, NOT LESS, LESS, NOT GREATER: so with signed bounds",
                BoundaryRelationsTest::greater);
        CHECK.sentence("Promise 7, LESS, NOT GREATER", "LESS, NOT GREATER: so with signed bounds",
                BoundaryRelationsTest::lessIsGreaterTurned);
        CHECK.sentence("Promise 7, GREATER", "(EMPTY: y's least is the greatest long, x's greatest the least one).",
                BoundaryRelationsTest::greaterThanTheGreatest);
    }

    private static void sameness() {
        CHECK.sentence("Promise 7, SAME", "SAME: EMPTY if a bit that both know differs;",
                BoundaryRelationsTest::sameWithBitsThatDiffer);
        CHECK.sentence("Promise 7, SAME", "else both have all bits known that either knows,"
                + " and the greater least and lesser greatest of both kinds.",
                BoundaryRelationsTest::same);
        CHECK.sentence("Promise 7, NOT SAME", "NOT SAME: if y is EXACT c: EMPTY if x is EXACT c;",
                BoundaryRelationsTest::notSameOfTheSame);
        CHECK.sentence("Promise 7, NOT SAME",
                "else x's unsigned least is one more if it is c, then its greatest one less if it is c;",
                BoundaryRelationsTest::notSameAtUnsignedEnds);
        CHECK.sentence("Promise 7, NOT SAME", "one less if it is c; and so with signed ones.",
                BoundaryRelationsTest::notSameAtSignedEnds);
        CHECK.sentence("Promise 7, NOT SAME", "and so with signed ones. Then, if x was EXACT, so of y.",
                BoundaryRelationsTest::notSameOfExactX);
    }

    private static void meeting() {
        CHECK.sentence("Promise 7, MEET", "MEET: EMPTY if x and y have no place in which both may be 1;",
                BoundaryRelationsTest::meetInNoPlace);
        CHECK.sentence("Promise 7, MEET",
                "then, if y is EXACT with one 1: that is known in x as 1 (a value's bit, no mask's);",
                BoundaryRelationsTest::meetOneBit);
        CHECK.sentence("Promise 7, MEET", "then, if x was EXACT with one 1, so of y.",
                BoundaryRelationsTest::meetOfExactX);
        CHECK.sentence("Promise 7, NOT MEET", "NOT MEET: EMPTY, if both values have a 1 in one place;",
                BoundaryRelationsTest::notMeetInOnePlace);
        CHECK.sentence("Promise 7, NOT MEET", "then, if y is EXACT: x's bits in its places are known 0;",
                BoundaryRelationsTest::notMeetExactY);
        CHECK.sentence("Promise 7, NOT MEET", "x's bits in its places are known 0; then, if x was EXACT, so of y.",
                BoundaryRelationsTest::notMeetOfExactX);
        CHECK.sentence("Promise 7, MEET, NOT MEET, NOT SAME", "(x WAS EXACT: ahead of all this.)",
                BoundaryRelationsTest::xWasExactAhead);
    }

    private static void settled() {
        CHECK.sentence("Promise 7, TO SETTLE", "Then x and y are settled;",
                BoundaryRelationsTest::bothAreSettled);
        CHECK.sentence("Promise 7, EMPTY", "if one is EMPTY the relation can't hold.",
                BoundaryRelationsTest::oneIsEmpty);
    }

    private static void narrowOnes() {
        CHECK.sentence("Promise 7, NARROW", "NARROW: if neither greatest is above LOW",
                BoundaryRelationsTest::narrowAtLow);
        CHECK.sentence("Promise 7, NARROW", "(for 5, 6, 9, 10: is 2^31 or more), as above.",
                BoundaryRelationsTest::narrowAtTwoTo31);
        CHECK.sentence("Promise 7, NARROW", "Else nothing is told of x and y;",
                BoundaryRelationsTest::narrowTellsNothing);
        CHECK.sentence("Promise 7, NARROW",
                "it can't hold, if for 0 to 4, 7, 8, 11 it can't hold of both as they are NARROWED.",
                BoundaryRelationsTest::narrowThatCannotHold);
    }

    // ---- The call

    private static void noSuchRelation() {
        for (int relation : WRONG_RELATIONS) {
            RangeDesk desk = marked();
            for (int i = 1; i < Check.NUMBERS; i++) {
                CHECK.due("relation " + relation, desk.holds(relation, i, 0, false), false);
                CHECK.due("relation " + relation + " narrow", desk.holds(relation, 0, i, true), false);
            }
            isStillMarked("relation " + relation, desk);
        }
        RangeDesk desk = desk(any(), any());
        for (int relation = 0; relation < RELATIONS; relation++) {
            CHECK.due("relation " + relation, desk.any(0) && desk.any(15) && desk.holds(relation, 0, 15, false), true);
            CHECK.due("relation " + relation + " narrow", desk.holds(relation, X, Y, true), true);
        }
        tells(0, any(), exact(5), knownExact(5), knownExact(5));
        tells(11, bits(0, 15), exact(7), known(0, 8, 0, 8, 0, 8), knownExact(7));
    }

    /** Also where much had been told of x before y turned out to be EMPTY. */
    private static void asTheyWere() {
        cannot(SAME, unsigned(1, 5), unsigned(6, 9));
        cannot(SAME, bits(1, -2), bits(0, -2));
        cannot(SAME, both(bits(1, 10), unsigned(0, 8)), bits(9, 2));
        cannot(ABOVE, unsigned(0, 5), unsigned(5, 9));
        cannot(NOT_BELOW, unsigned(0, 4), unsigned(5, 9));
        cannot(NOT_BELOW, unsigned(1, 4), both(bits(1, 8), unsigned(2, 9)));
        cannot(MEET, unsigned(0, 7), exact(8));
        cannot(NOT_SAME, exact(5), exact(5));
        cannot(NOT_SAME, sevenAlone(), exact(7));
        cannot(GREATER, signed(-9, -5), signed(-5, 3));
        cannot(NOT_LESS, signed(-9, -6), signed(-5, 3));
        cannot(BELOW, unsigned(5, 9), unsigned(0, 5));
        cannot(NOT_ABOVE, unsigned(5, 9), unsigned(0, 4));
        cannot(LESS, signed(-5, 3), signed(-9, -5));
        cannot(NOT_GREATER, signed(-5, 3), signed(-9, -6));
        cannot(NOT_MEET, unsigned(8, 9), exact(8));
        cannot(NOT_MEET, exact(15), unsigned(7, 9));
    }

    private static void xIsY() {
        for (Setting one : MANY) {
            for (int relation = 0; relation < RELATIONS; relation++) {
                RangeDesk desk = desk(one, one);
                long[] was = Check.all(desk, X);
                CHECK.due("relation " + relation + " of x and x", desk.holds(relation, X, X, false), false);
                CHECK.due("relation " + relation + " narrow of x and x", desk.holds(relation, X, X, true), false);
                CHECK.number("relation " + relation + " of x and x", desk, X, was);
            }
        }
        for (int i = 0; i < Check.NUMBERS; i++) {
            CHECK.due("SAME of " + i + " and itself", new RangeDesk().holds(SAME, i, i, false), false);
        }
        // Another number that is known just as well is not x.
        tells(SAME, exact(5), exact(5), knownExact(5), knownExact(5));
        tells(NOT_BELOW, any(), any(), knownAny(), knownAny());
    }

    private static void noSuchNumbers() {
        for (int relation = 0; relation < RELATIONS; relation++) {
            for (int i : Check.WRONG_NUMBERS) {
                RangeDesk desk = marked();
                CHECK.due("any of 0 and 15", desk.any(0) && desk.any(15), true);
                for (int narrow = 0; narrow < 2; narrow++) {
                    CHECK.due("holds of x " + i, desk.holds(relation, i, 0, narrow == 1), false);
                    CHECK.due("holds of y " + i, desk.holds(relation, 15, i, narrow == 1), false);
                    CHECK.due("holds of both " + i, desk.holds(relation, i, i, narrow == 1), false);
                    CHECK.due("holds of two others", desk.holds(relation, i, 16, narrow == 1), false);
                }
                CHECK.any("holds of " + i, desk, 0);
                CHECK.any("holds of " + i, desk, 15);
            }
        }
        RangeDesk desk = new RangeDesk();
        CHECK.due("SAME of 0 and 15", desk.holds(SAME, 0, 15, false), true);
        CHECK.due("SAME of 15 and 0", desk.holds(SAME, 15, 0, true), true);
    }

    /** Of two EXACT numbers a relation can hold where it is true of both longs, and then tells nothing. */
    private static void relationsOfExactOnes() {
        long[] ends = {0, 1, 2, MAX - 1, MAX, MIN, MIN + 1, MOST - 1, MOST, TWO_31, LOW, LOW + 1};
        for (long a : ends) {
            for (long b : ends) {
                int unsigned = Long.compareUnsigned(a, b);
                boolean[] due = new boolean[RELATIONS];
                due[SAME] = a == b;
                due[ABOVE] = unsigned > 0;
                due[NOT_BELOW] = unsigned >= 0;
                due[MEET] = (a & b) != 0;
                due[NOT_SAME] = a != b;
                due[GREATER] = a > b;
                due[NOT_LESS] = a >= b;
                due[BELOW] = unsigned < 0;
                due[NOT_ABOVE] = unsigned <= 0;
                due[LESS] = a < b;
                due[NOT_GREATER] = a <= b;
                due[NOT_MEET] = (a & b) == 0;
                for (int relation = 0; relation < RELATIONS; relation++) {
                    holds(relation, false, exact(a), exact(b), due[relation] ? knownExact(a) : null, knownExact(b));
                }
            }
        }
    }

    // ---- ABOVE, NOT BELOW and those like them

    private static void above() {
        tells(ABOVE, unsigned(0, 10), unsigned(5, 50), known(0, 15, 6, 10, 6, 10), known(0, 15, 5, 9, 5, 9));
        tells(ABOVE, unsigned(7, 10), unsigned(5, 8), known(0, 15, 7, 10, 7, 10), known(0, 15, 5, 8, 5, 8));
        tells(ABOVE, unsigned(6, 10), unsigned(5, 9), known(0, 15, 6, 10, 6, 10), known(0, 15, 5, 9, 5, 9));
        tells(ABOVE, unsigned(5, 10), unsigned(5, 10), known(0, 15, 6, 10, 6, 10), known(0, 15, 5, 9, 5, 9));
        tells(ABOVE, unsigned(0, 6), unsigned(5, 9), knownExact(6), knownExact(5));
        tells(ABOVE, any(), any(), known(0, MOST, 1, MOST, MIN, MAX), known(0, MOST, 0, MOST - 1, MIN, MAX));
        tells(ABOVE, exact(MIN), exact(MAX), knownExact(MIN), knownExact(MAX));
        tells(ABOVE, unsigned(MAX, MIN), unsigned(MAX, MIN), knownExact(MIN), knownExact(MAX));
        tells(ABOVE, any(), unsigned(MAX, MIN), known(MIN, MAX, MIN, MOST, MIN, -1), known(0, MOST, MAX, MIN, MIN, MAX));
        tells(ABOVE, exact(MOST), exact(0), knownExact(MOST), knownExact(0));
        tells(ABOVE, unsigned(7, MIN + 9), unsigned(5, MIN + 20),
                known(0, MOST, 7, MIN + 9, MIN, MAX), known(0, MOST, 5, MIN + 8, MIN, MAX));
        tells(ABOVE, unsigned(5, MIN + 9), unsigned(5, MIN + 8),
                known(0, MOST, 6, MIN + 9, MIN, MAX), known(0, MOST, 5, MIN + 8, MIN, MAX));
        tellsNothing(ABOVE, false, unsigned(6, MIN + 9), unsigned(5, MIN + 8));
        tellsNothing(ABOVE, false, unsigned(7, MIN + 9), unsigned(5, MIN + 3));
        cannot(ABOVE, unsigned(0, 5), unsigned(5, 9));
        cannot(ABOVE, exact(5), exact(5));
        cannot(ABOVE, exact(MAX), exact(MIN));
        cannot(ABOVE, exact(0), exact(MOST));
        cannot(ABOVE, exact(1), exact(-1));
    }

    private static void aboveMostAndBelowZero() {
        cannot(ABOVE, any(), exact(MOST));
        cannot(ABOVE, exact(0), any());
        cannot(ABOVE, exact(MOST), exact(MOST));
        cannot(ABOVE, exact(0), exact(0));
        cannot(ABOVE, exact(0), exact(MOST));
        cannot(BELOW, exact(MOST), exact(0));
        cannot(BELOW, exact(MOST), any());
        cannot(BELOW, any(), exact(0));
        cannot(BELOW, exact(0), exact(0));
        // One less than MOST and one more than 0 can be.
        tells(ABOVE, any(), exact(MOST - 1), knownExact(MOST), knownExact(MOST - 1));
        tells(ABOVE, any(), unsigned(MOST - 1, MOST), knownExact(MOST), knownExact(MOST - 1));
        tells(ABOVE, exact(1), any(), knownExact(1), knownExact(0));
        tells(ABOVE, unsigned(0, 1), any(), knownExact(1), knownExact(0));
        tells(ABOVE, any(), exact(LOW), known(0, MOST, LOW + 1, MOST, MIN, MAX), knownExact(LOW));
        tells(ABOVE, any(), exact(MAX), known(MIN, MAX, MIN, MOST, MIN, -1), knownExact(MAX));
        tells(BELOW, any(), exact(1), knownExact(0), knownExact(1));
        tells(BELOW, exact(MOST - 1), any(), knownExact(MOST - 1), knownExact(MOST));
    }

    private static void notBelow() {
        long[] both = known(0, 15, 5, 10, 5, 10);
        tells(NOT_BELOW, unsigned(0, 10), unsigned(5, 50), both, both);
        tells(NOT_BELOW, unsigned(5, 10), unsigned(3, 9), both, known(0, 15, 3, 9, 3, 9));
        tells(NOT_BELOW, unsigned(0, 5), unsigned(5, 9), knownExact(5), knownExact(5));
        tells(NOT_BELOW, any(), exact(MOST), knownExact(MOST), knownExact(MOST));
        tells(NOT_BELOW, exact(0), any(), knownExact(0), knownExact(0));
        tells(NOT_BELOW, any(), any(), knownAny(), knownAny());
        tells(NOT_BELOW, exact(MOST), any(), knownExact(MOST), knownAny());
        tells(NOT_BELOW, any(), exact(0), knownAny(), knownExact(0));
        tells(NOT_BELOW, exact(MIN), exact(MAX), knownExact(MIN), knownExact(MAX));
        tells(NOT_BELOW, exact(7), exact(7), knownExact(7), knownExact(7));
        tells(NOT_BELOW, unsigned(7, MIN + 9), unsigned(5, MIN + 20),
                known(0, MOST, 7, MIN + 9, MIN, MAX), known(0, MOST, 5, MIN + 9, MIN, MAX));
        tells(NOT_BELOW, unsigned(3, MIN + 9), unsigned(5, MIN + 9),
                known(0, MOST, 5, MIN + 9, MIN, MAX), known(0, MOST, 5, MIN + 9, MIN, MAX));
        tellsNothing(NOT_BELOW, false, unsigned(7, MIN + 9), unsigned(5, MIN + 3));
        tellsNothing(NOT_BELOW, false, unsigned(5, MIN + 9), unsigned(5, MIN + 9));
        cannot(NOT_BELOW, unsigned(0, 4), unsigned(5, 9));
        cannot(NOT_BELOW, exact(MAX), exact(MIN));
        cannot(NOT_BELOW, exact(0), exact(MOST));
        cannot(NOT_BELOW, unsigned(0, MOST - 1), exact(MOST));
        cannot(NOT_BELOW, exact(0), unsigned(1, MOST));
    }

    private static void belowIsAboveTurned() {
        turned(BELOW, ABOVE);
        turned(NOT_ABOVE, NOT_BELOW);
        tells(BELOW, unsigned(5, 50), unsigned(0, 10), known(0, 15, 5, 9, 5, 9), known(0, 15, 6, 10, 6, 10));
        tells(NOT_ABOVE, exact(5), unsigned(0, 5), knownExact(5), knownExact(5));
        cannot(BELOW, exact(5), exact(5));
        cannot(NOT_ABOVE, exact(MOST), unsigned(0, MOST - 1));
        tells(BELOW, exact(MAX), exact(MIN), knownExact(MAX), knownExact(MIN));
        tells(NOT_ABOVE, exact(MAX), exact(MIN), knownExact(MAX), knownExact(MIN));
    }

    /** A relation of x and y tells what the other one tells of y and x. */
    private static void turned(int relation, int other) {
        for (Setting x : MANY) {
            for (Setting y : MANY) {
                for (int narrow = 0; narrow < 2; narrow++) {
                    RangeDesk desk = desk(x, y);
                    RangeDesk back = desk(x, y);
                    String call = "relation " + relation + " of " + Check.text(Check.all(desk, X))
                            + " and " + Check.text(Check.all(desk, Y));
                    boolean due = back.holds(other, Y, X, narrow == 1);
                    CHECK.due(call, desk.holds(relation, X, Y, narrow == 1), due);
                    CHECK.number(call + ", x", desk, X, Check.all(back, X));
                    CHECK.number(call + ", y", desk, Y, Check.all(back, Y));
                }
            }
        }
    }

    private static void greater() {
        long[] wide = known(0, MOST, 0, MOST, -5, 10);
        tells(GREATER, signed(-10, 10), signed(-5, 50),
                known(0, MOST, 0, MOST, -4, 10), known(0, MOST, 0, MOST, -5, 9));
        tells(GREATER, signed(-3, 10), signed(-5, 4),
                known(0, MOST, 0, MOST, -3, 10), known(0, MOST, 0, MOST, -5, 4));
        tells(GREATER, any(), any(), known(0, MOST, 0, MOST, MIN + 1, MAX), known(0, MOST, 0, MOST, MIN, MAX - 1));
        tells(GREATER, exact(0), exact(-1), knownExact(0), knownExact(-1));
        tells(GREATER, exact(MAX), exact(MIN), knownExact(MAX), knownExact(MIN));
        tells(GREATER, signed(-1, 0), signed(-1, 0), knownExact(0), knownExact(-1));
        tells(GREATER, any(), exact(-1), known(0, MAX, 0, MAX, 0, MAX), knownExact(-1));
        tells(GREATER, exact(0), any(), knownExact(0), known(MIN, MAX, MIN, MOST, MIN, -1));
        cannot(GREATER, exact(-1), exact(0));
        cannot(GREATER, exact(-1), exact(-1));
        cannot(GREATER, exact(MIN), exact(MAX));
        cannot(GREATER, signed(-9, -5), signed(-5, 3));
        tells(NOT_LESS, signed(-10, 10), signed(-5, 50), wide, wide);
        tells(NOT_LESS, signed(-9, -5), signed(-5, 3), knownExact(-5), knownExact(-5));
        tells(NOT_LESS, any(), exact(MAX), knownExact(MAX), knownExact(MAX));
        tells(NOT_LESS, exact(MIN), any(), knownExact(MIN), knownExact(MIN));
        tells(NOT_LESS, any(), any(), knownAny(), knownAny());
        tells(NOT_LESS, any(), exact(0), known(0, MAX, 0, MAX, 0, MAX), knownExact(0));
        tellsNothing(GREATER, false, signed(-4, 10), signed(-5, 9));
        tellsNothing(NOT_LESS, false, signed(-5, 10), signed(-5, 10));
        tellsNothing(NOT_LESS, false, signed(-3, 10), signed(-5, 4));
        cannot(NOT_LESS, signed(-9, -6), signed(-5, 3));
        cannot(NOT_LESS, exact(-1), exact(0));
        cannot(NOT_LESS, signed(MIN, MAX - 1), exact(MAX));
        cannot(NOT_LESS, exact(MIN), signed(MIN + 1, MAX));
    }

    private static void lessIsGreaterTurned() {
        turned(LESS, GREATER);
        turned(NOT_GREATER, NOT_LESS);
        tells(LESS, any(), exact(0), known(MIN, MAX, MIN, MOST, MIN, -1), knownExact(0));
        tells(LESS, exact(-1), exact(0), knownExact(-1), knownExact(0));
        tells(NOT_GREATER, any(), exact(MIN), knownExact(MIN), knownExact(MIN));
        tells(NOT_GREATER, exact(-1), signed(-5, -1), knownExact(-1), knownExact(-1));
        cannot(LESS, exact(0), exact(-1));
        cannot(LESS, exact(3), exact(3));
        cannot(NOT_GREATER, exact(0), exact(-1));
        cannot(NOT_GREATER, exact(MAX), signed(MIN, MAX - 1));
    }

    private static void greaterThanTheGreatest() {
        cannot(GREATER, any(), exact(MAX));
        cannot(GREATER, exact(MIN), any());
        cannot(GREATER, exact(MAX), exact(MAX));
        cannot(GREATER, exact(MIN), exact(MIN));
        cannot(GREATER, exact(MIN), exact(MAX));
        cannot(LESS, exact(MAX), exact(MIN));
        cannot(LESS, exact(MAX), any());
        cannot(LESS, any(), exact(MIN));
        tells(GREATER, any(), exact(MAX - 1), knownExact(MAX), knownExact(MAX - 1));
        tells(GREATER, any(), signed(MAX - 1, MAX), knownExact(MAX), knownExact(MAX - 1));
        tells(GREATER, exact(MIN + 1), any(), knownExact(MIN + 1), knownExact(MIN));
        tells(GREATER, signed(MIN, MIN + 1), any(), knownExact(MIN + 1), knownExact(MIN));
        tells(LESS, any(), exact(MIN + 1), knownExact(MIN), knownExact(MIN + 1));
        tells(LESS, exact(MAX - 1), any(), knownExact(MAX - 1), knownExact(MAX));
        // MOST and 0 are no ends of the signed ones.
        tells(GREATER, signed(-5, 9), exact(-1), known(0, 15, 0, 9, 0, 9), knownExact(-1));
        tells(GREATER, exact(0), signed(-5, 9), knownExact(0), known(-8, 7, -5, -1, -5, -1));
    }

    // ---- SAME, NOT SAME

    private static void sameWithBitsThatDiffer() {
        cannot(SAME, bits(1, -2), bits(0, -2));
        cannot(SAME, bits(0, -2), bits(1, -2));
        cannot(SAME, bits(MIN, MAX), bits(0, MAX));
        cannot(SAME, exact(MOST), exact(MAX));
        cannot(SAME, exact(0), bits(MIN, MAX));
        cannot(SAME, bits(4, -7), bits(0, -6));
        // Where either doesn't know the bit, it doesn't differ.
        long[] odd = known(3, -4, 3, MOST, MIN, MAX);
        tells(SAME, bits(1, -2), bits(2, -3), odd, odd);
        tells(SAME, bits(MIN, MAX), any(), known(MIN, MAX, MIN, MOST, MIN, -1), known(MIN, MAX, MIN, MOST, MIN, -1));
    }

    private static void same() {
        for (long c : new long[] {0, 1, MOST, MIN, MAX, LOW}) {
            tells(SAME, any(), exact(c), knownExact(c), knownExact(c));
            tells(SAME, exact(c), any(), knownExact(c), knownExact(c));
            tells(SAME, exact(c), exact(c), knownExact(c), knownExact(c));
        }
        long[] unsigned = known(0, MOST, 5, MOST - 3, MIN, MAX);
        tells(SAME, unsigned(5, MOST - 1), unsigned(2, MOST - 3), unsigned, unsigned);
        tells(SAME, unsigned(2, MOST - 3), unsigned(5, MOST - 1), unsigned, unsigned);
        long[] signed = known(0, MOST, 0, MOST, -5, 3);
        tells(SAME, signed(-5, 7), signed(-9, 3), signed, signed);
        tells(SAME, signed(-9, 3), signed(-5, 7), signed, signed);
        long[] kinds = known(0, MOST, 5, MIN + 9, MIN + 4, 100);
        tells(SAME, unsigned(5, MIN + 9), signed(MIN + 4, 100), kinds, kinds);
        tells(SAME, unsigned(1, 5), unsigned(5, 9), knownExact(5), knownExact(5));
        tells(SAME, signed(-5, -1), signed(-1, 4), knownExact(-1), knownExact(-1));
        tells(SAME, unsigned(MAX, MIN), unsigned(MIN, MOST), knownExact(MIN), knownExact(MIN));
        long[] bits = known(8, 7, 10, 15, 10, 15);
        tells(SAME, bits(8, 7), unsigned(10, 20), bits, bits);
        tells(SAME, unsigned(10, 20), bits(8, 7), bits, bits);
        long[] gaps = known(8, 5, 8, 13, 8, 13);
        tells(SAME, bits(8, 5), unsigned(0, 31), gaps, gaps);
        tells(SAME, any(), bits(8, 5), gaps, gaps);
        long[] odd = known(3, -4, 3, MOST, MIN, MAX);
        tells(SAME, bits(1, -2), bits(2, -3), odd, odd);
        tells(SAME, any(), any(), knownAny(), knownAny());
        cannot(SAME, unsigned(1, 5), unsigned(6, 9));
        cannot(SAME, signed(-5, -1), signed(0, 4));
        cannot(SAME, exact(5), exact(6));
    }

    private static void notSameOfTheSame() {
        for (long c : new long[] {0, 1, MOST, MIN, MAX, LOW, TWO_31}) {
            cannot(NOT_SAME, exact(c), exact(c));
            cannot(NOT_SAME, unsigned(c, c), bits(c, 0));
            tells(NOT_SAME, exact(c), exact(c + 1), knownExact(c), knownExact(c + 1));
            tells(NOT_SAME, exact(c), exact(c ^ MIN), knownExact(c), knownExact(c ^ MIN));
        }
        // Neither is EXACT, and so nothing is told.
        tellsNothing(NOT_SAME, false, unsigned(5, 6), unsigned(5, 6));
        tellsNothing(NOT_SAME, false, sevenAlone(), sevenAlone());
        tellsNothing(NOT_SAME, false, any(), any());
    }

    private static void notSameAtUnsignedEnds() {
        tells(NOT_SAME, any(), exact(0), known(0, MOST, 1, MOST, MIN, MAX), knownExact(0));
        tells(NOT_SAME, any(), exact(MOST), known(0, MOST, 0, MOST - 1, MIN, MAX), knownExact(MOST));
        tells(NOT_SAME, unsigned(5, 9), exact(5), known(0, 15, 6, 9, 6, 9), knownExact(5));
        tells(NOT_SAME, unsigned(5, 9), exact(9), known(0, 15, 5, 8, 5, 8), knownExact(9));
        tells(NOT_SAME, unsigned(5, 6), exact(5), knownExact(6), knownExact(5));
        tells(NOT_SAME, unsigned(5, 6), exact(6), knownExact(5), knownExact(6));
        tells(NOT_SAME, unsigned(0, 1), exact(0), knownExact(1), knownExact(0));
        tells(NOT_SAME, unsigned(MOST - 1, MOST), exact(MOST), knownExact(MOST - 1), knownExact(MOST));
        tells(NOT_SAME, unsigned(MAX, MIN), exact(MAX), knownExact(MIN), knownExact(MAX));
        tells(NOT_SAME, unsigned(MAX, MIN), exact(MIN), knownExact(MAX), knownExact(MIN));
        tellsNothing(NOT_SAME, false, unsigned(5, 9), exact(6));
        tellsNothing(NOT_SAME, false, unsigned(5, 9), exact(8));
        tellsNothing(NOT_SAME, false, unsigned(5, 9), exact(4));
        tellsNothing(NOT_SAME, false, unsigned(5, 9), exact(10));
        cannot(NOT_SAME, sevenAlone(), exact(7));
    }

    private static void notSameAtSignedEnds() {
        tells(NOT_SAME, any(), exact(MIN), known(0, MOST, 0, MOST, MIN + 1, MAX), knownExact(MIN));
        tells(NOT_SAME, any(), exact(MAX), known(0, MOST, 0, MOST, MIN, MAX - 1), knownExact(MAX));
        tells(NOT_SAME, signed(-3, 3), exact(-3), known(0, MOST, 0, MOST, -2, 3), knownExact(-3));
        tells(NOT_SAME, signed(-3, 3), exact(3), known(0, MOST, 0, MOST, -3, 2), knownExact(3));
        tells(NOT_SAME, signed(-1, 0), exact(-1), knownExact(0), knownExact(-1));
        tells(NOT_SAME, signed(-1, 0), exact(0), knownExact(-1), knownExact(0));
        tells(NOT_SAME, signed(MIN, MIN + 1), exact(MIN), knownExact(MIN + 1), knownExact(MIN));
        tells(NOT_SAME, signed(MAX - 1, MAX), exact(MAX), knownExact(MAX - 1), knownExact(MAX));
        tellsNothing(NOT_SAME, false, signed(-3, 3), exact(-2));
        tellsNothing(NOT_SAME, false, signed(-3, 3), exact(2));
        tellsNothing(NOT_SAME, false, signed(-3, 3), exact(-4));
    }

    private static void notSameOfExactX() {
        tells(NOT_SAME, exact(0), any(), knownExact(0), known(0, MOST, 1, MOST, MIN, MAX));
        tells(NOT_SAME, exact(MOST), any(), knownExact(MOST), known(0, MOST, 0, MOST - 1, MIN, MAX));
        tells(NOT_SAME, exact(MIN), any(), knownExact(MIN), known(0, MOST, 0, MOST, MIN + 1, MAX));
        tells(NOT_SAME, exact(MAX), any(), knownExact(MAX), known(0, MOST, 0, MOST, MIN, MAX - 1));
        tells(NOT_SAME, exact(5), unsigned(5, 6), knownExact(5), knownExact(6));
        tells(NOT_SAME, exact(6), unsigned(5, 6), knownExact(6), knownExact(5));
        tells(NOT_SAME, exact(5), unsigned(5, 9), knownExact(5), known(0, 15, 6, 9, 6, 9));
        tells(NOT_SAME, exact(9), unsigned(5, 9), knownExact(9), known(0, 15, 5, 8, 5, 8));
        tellsNothing(NOT_SAME, false, exact(7), unsigned(5, 9));
        cannot(NOT_SAME, exact(7), sevenAlone());
    }

    // ---- MEET, NOT MEET

    private static void meetInNoPlace() {
        cannot(MEET, exact(0), any());
        cannot(MEET, any(), exact(0));
        cannot(MEET, exact(0), exact(0));
        cannot(MEET, exact(0), exact(MOST));
        cannot(MEET, bits(0, 7), exact(8));
        cannot(MEET, exact(MIN), bits(0, MAX));
        cannot(MEET, unsigned(0, MAX), exact(MIN));
        cannot(MEET, bits(4, 3), bits(8, 16));
        cannot(MEET, bits(0, -2), exact(1));
        // In one place alone both may be 1: where both are known, where one or where none is.
        tells(MEET, exact(12), exact(9), knownExact(12), knownExact(9));
        tellsNothing(MEET, false, bits(4, 3), bits(8, 4));
        tellsNothing(MEET, false, bits(16, 8), bits(0, 8));
        tellsNothing(MEET, false, any(), any());
    }

    private static void meetOneBit() {
        tells(MEET, bits(0, 15), exact(8), known(8, 7, 8, 15, 8, 15), knownExact(8));
        tells(MEET, any(), exact(MIN), known(MIN, MAX, MIN, MOST, MIN, -1), knownExact(MIN));
        tells(MEET, any(), exact(1), known(1, -2, 1, MOST, MIN, MAX), knownExact(1));
        tells(MEET, any(), exact(TWO_32), known(TWO_32, ~TWO_32, TWO_32, MOST, MIN, MAX), knownExact(TWO_32));
        tells(MEET, bits(8, 7), exact(8), known(8, 7, 8, 15, 8, 15), knownExact(8));
        tells(MEET, unsigned(0, 1), exact(1), knownExact(1), knownExact(1));
        tells(MEET, exact(12), exact(8), knownExact(12), knownExact(8));
        // Two 1s, all of them, or one of a number that is not EXACT, tell nothing.
        tellsNothing(MEET, false, bits(0, 15), exact(12));
        tellsNothing(MEET, false, any(), exact(MOST));
        tellsNothing(MEET, false, any(), exact(MIN + 1));
        tellsNothing(MEET, false, bits(0, 15), bits(0, 8));
        tellsNothing(MEET, false, any(), bits(8, 16));
        cannot(MEET, both(bits(1, 10), unsigned(0, 8)), exact(8));
    }

    private static void meetOfExactX() {
        tells(MEET, exact(4), bits(0, 15), knownExact(4), known(4, 11, 4, 15, 4, 15));
        tells(MEET, exact(MIN), any(), knownExact(MIN), known(MIN, MAX, MIN, MOST, MIN, -1));
        tells(MEET, exact(1), any(), knownExact(1), known(1, -2, 1, MOST, MIN, MAX));
        tells(MEET, exact(8), exact(12), knownExact(8), knownExact(12));
        tells(MEET, exact(8), exact(8), knownExact(8), knownExact(8));
        tellsNothing(MEET, false, exact(12), bits(0, 15));
        tellsNothing(MEET, false, exact(MOST), any());
        tellsNothing(MEET, false, bits(8, 16), any());
        cannot(MEET, exact(8), both(bits(1, 10), unsigned(0, 8)));
    }

    private static void notMeetInOnePlace() {
        cannot(NOT_MEET, bits(8, 7), bits(8, 1));
        cannot(NOT_MEET, exact(3), exact(1));
        cannot(NOT_MEET, exact(MIN), bits(MIN, MAX));
        cannot(NOT_MEET, bits(MIN, 1), bits(MIN, 2));
        cannot(NOT_MEET, bits(1, -2), bits(1, -4));
        cannot(NOT_MEET, bits(1, -2), exact(MOST));
        cannot(NOT_MEET, exact(MOST), exact(MOST));
        // A 1 where the other one may be 1 is not enough.
        tellsNothing(NOT_MEET, false, bits(8, 7), bits(16, 8));
        tellsNothing(NOT_MEET, false, any(), any());
        tellsNothing(NOT_MEET, false, any(), bits(8, 7));
        tells(NOT_MEET, exact(3), exact(4), knownExact(3), knownExact(4));
        tells(NOT_MEET, exact(0), exact(0), knownExact(0), knownExact(0));
        tells(NOT_MEET, exact(0), exact(MOST), knownExact(0), knownExact(MOST));
    }

    private static void notMeetExactY() {
        tells(NOT_MEET, any(), exact(MOST), knownExact(0), knownExact(MOST));
        tells(NOT_MEET, any(), exact(MIN), known(0, MAX, 0, MAX, 0, MAX), knownExact(MIN));
        tells(NOT_MEET, any(), exact(MAX), known(0, MIN, 0, MIN, MIN, MAX), knownExact(MAX));
        tells(NOT_MEET, bits(8, 7), exact(3), known(8, 4, 8, 12, 8, 12), knownExact(3));
        tells(NOT_MEET, bits(8, 7), exact(7), knownExact(8), knownExact(7));
        tellsNothing(NOT_MEET, false, any(), exact(0));
        tellsNothing(NOT_MEET, false, bits(8, 7), exact(16));
        cannot(NOT_MEET, unsigned(3, 9), exact(MOST));
        cannot(NOT_MEET, unsigned(7, 9), exact(15));
    }

    private static void notMeetOfExactX() {
        tells(NOT_MEET, exact(MOST), any(), knownExact(MOST), knownExact(0));
        tells(NOT_MEET, exact(MIN), any(), knownExact(MIN), known(0, MAX, 0, MAX, 0, MAX));
        tells(NOT_MEET, exact(3), bits(8, 7), knownExact(3), known(8, 4, 8, 12, 8, 12));
        tells(NOT_MEET, exact(7), bits(8, 7), knownExact(7), knownExact(8));
        tellsNothing(NOT_MEET, false, exact(0), any());
        cannot(NOT_MEET, exact(MOST), unsigned(3, 9));
    }

    /** That x comes to be EXACT by what y tells changes nothing of y. */
    private static void xWasExactAhead() {
        tells(MEET, bits(0, 4), exact(4), knownExact(4), knownExact(4));
        tells(MEET, bits(8, 4), exact(4), knownExact(12), knownExact(4));
        tells(NOT_MEET, bits(8, 4), exact(4), knownExact(8), knownExact(4));
        tells(NOT_MEET, any(), exact(MOST), knownExact(0), knownExact(MOST));
        tells(NOT_SAME, unsigned(5, 6), exact(5), knownExact(6), knownExact(5));
        tells(NOT_SAME, unsigned(0, 1), exact(1), knownExact(0), knownExact(1));
    }

    // ---- Settled, EMPTY

    private static void bothAreSettled() {
        tells(ABOVE, any(), unsigned(MAX, MIN), known(MIN, MAX, MIN, MOST, MIN, -1), known(0, MOST, MAX, MIN, MIN, MAX));
        tells(BELOW, any(), unsigned(0, MIN), known(0, MAX, 0, MAX, 0, MAX), known(0, MOST, 1, MIN, MIN, MAX));
        tells(BELOW, any(), exact(8), known(0, 7, 0, 7, 0, 7), knownExact(8));
        tells(ABOVE, exact(8), any(), knownExact(8), known(0, 7, 0, 7, 0, 7));
        tells(LESS, any(), exact(0), known(MIN, MAX, MIN, MOST, MIN, -1), knownExact(0));
        tells(NOT_LESS, exact(-1), signed(-3, 3), knownExact(-1), known(-4, 3, -3, -1, -3, -1));
        tells(MEET, any(), exact(MIN), known(MIN, MAX, MIN, MOST, MIN, -1), knownExact(MIN));
        tells(NOT_SAME, exact(8), unsigned(7, 8), knownExact(8), knownExact(7));
    }

    private static void oneIsEmpty() {
        Setting nine = both(bits(1, 8), unsigned(2, 9));
        // x can be, y can't; and turned.
        cannot(NOT_BELOW, exact(4), nine);
        cannot(NOT_ABOVE, nine, exact(4));
        cannot(NOT_BELOW, unsigned(1, 4), nine);
        cannot(NOT_ABOVE, nine, unsigned(1, 4));
        cannot(NOT_MEET, exact(15), unsigned(7, 9));
        cannot(NOT_MEET, unsigned(7, 9), exact(15));
        cannot(GREATER, exact(4), nine);
        cannot(LESS, nine, exact(4));
        // One more, and both can.
        tells(NOT_BELOW, exact(9), nine, knownExact(9), known(1, 8, 2, 9, 2, 9));
    }

    // ---- NARROW

    /** At LOW what is told is as without narrow, beyond it nothing is told. */
    private static void narrowAtLow() {
        holds(BELOW, true, unsigned(0, LOW), exact(10), known(0, 15, 0, 9, 0, 9), knownExact(10));
        tellsNothing(BELOW, true, unsigned(0, LOW + 1), exact(10));
        holds(NOT_ABOVE, true, unsigned(0, LOW), exact(7), known(0, 7, 0, 7, 0, 7), knownExact(7));
        tellsNothing(NOT_ABOVE, true, unsigned(0, LOW + 1), exact(7));
        holds(ABOVE, true, exact(10), unsigned(0, LOW), knownExact(10), known(0, 15, 0, 9, 0, 9));
        tellsNothing(ABOVE, true, exact(10), unsigned(0, LOW + 1));
        holds(NOT_BELOW, true, exact(7), unsigned(0, LOW), knownExact(7), known(0, 7, 0, 7, 0, 7));
        tellsNothing(NOT_BELOW, true, exact(7), unsigned(0, LOW + 1));
        holds(SAME, true, unsigned(0, LOW), exact(LOW), knownExact(LOW), knownExact(LOW));
        tellsNothing(SAME, true, unsigned(0, LOW + 1), exact(LOW));
        holds(NOT_SAME, true, unsigned(0, LOW), exact(LOW), known(0, LOW, 0, LOW - 1, 0, LOW - 1), knownExact(LOW));
        tellsNothing(NOT_SAME, true, unsigned(0, LOW + 1), exact(LOW + 1));
        tellsNothing(NOT_SAME, true, unsigned(0, LOW + 1), exact(0));
        holds(MEET, true, unsigned(0, LOW), exact(TWO_31),
                known(TWO_31, TWO_31 - 1, TWO_31, LOW, TWO_31, LOW), knownExact(TWO_31));
        tellsNothing(MEET, true, unsigned(0, LOW + 1), exact(TWO_31));
        holds(NOT_MEET, true, unsigned(0, LOW), exact(TWO_31),
                known(0, TWO_31 - 1, 0, TWO_31 - 1, 0, TWO_31 - 1), knownExact(TWO_31));
        tellsNothing(NOT_MEET, true, unsigned(0, LOW + 1), exact(TWO_31));
        for (int relation : NOT_SIGNED) {
            asWithout(relation, unsigned(0, LOW), unsigned(5, LOW));
            asWithout(relation, unsigned(5, LOW), exact(LOW));
            asWithout(relation, exact(LOW), exact(LOW));
            asWithout(relation, unsigned(5, 9), exact(5));
            tellsNothing(relation, true, unsigned(3, LOW), unsigned(0, LOW + 1));
            tellsNothing(relation, true, unsigned(0, LOW + 1), unsigned(3, LOW));
            tellsNothing(relation, true, any(), unsigned(3, 9));
            tellsNothing(relation, true, unsigned(3, 9), signed(-1, 1));
        }
    }

    private static void narrowAtTwoTo31() {
        holds(LESS, true, unsigned(0, TWO_31 - 1), exact(10), known(0, 15, 0, 9, 0, 9), knownExact(10));
        tellsNothing(LESS, true, unsigned(0, TWO_31), exact(10));
        holds(NOT_GREATER, true, unsigned(0, TWO_31 - 1), exact(7), known(0, 7, 0, 7, 0, 7), knownExact(7));
        tellsNothing(NOT_GREATER, true, unsigned(0, TWO_31), exact(7));
        holds(GREATER, true, exact(10), unsigned(0, TWO_31 - 1), knownExact(10), known(0, 15, 0, 9, 0, 9));
        tellsNothing(GREATER, true, exact(10), unsigned(0, TWO_31));
        holds(NOT_LESS, true, exact(7), unsigned(0, TWO_31 - 1), knownExact(7), known(0, 7, 0, 7, 0, 7));
        tellsNothing(NOT_LESS, true, exact(7), unsigned(0, TWO_31));
        cannotNarrow(GREATER, exact(TWO_31 - 2), exact(TWO_31 - 1));
        cannotNarrow(LESS, exact(TWO_31 - 1), exact(TWO_31 - 1));
        for (int relation : SIGNED) {
            asWithout(relation, unsigned(0, TWO_31 - 1), unsigned(5, TWO_31 - 1));
            asWithout(relation, exact(TWO_31 - 1), exact(TWO_31 - 1));
            asWithout(relation, exact(0), exact(TWO_31 - 1));
            asWithout(relation, exact(TWO_31 - 1), exact(0));
        }
        // The others take 2^31 as any other.
        for (int relation : NOT_SIGNED) {
            asWithout(relation, unsigned(0, TWO_31), unsigned(5, TWO_31));
            asWithout(relation, exact(TWO_31), exact(TWO_31));
            asWithout(relation, exact(TWO_31), exact(1));
        }
    }

    private static void asWithout(int relation, Setting x, Setting y) {
        RangeDesk whole = desk(x, y);
        boolean due = whole.holds(relation, X, Y, false);
        holds(relation, true, x, y, due ? Check.all(whole, X) : null, Check.all(whole, Y));
    }

    private static void narrowTellsNothing() {
        for (int relation = 0; relation < RELATIONS; relation++) {
            tellsNothing(relation, true, any(), any());
            tellsNothing(relation, true, any(), unsigned(5, 9));
            tellsNothing(relation, true, unsigned(5, 9), any());
            tellsNothing(relation, true, signed(-5, 3), signed(-5, 3));
        }
        tellsNothing(SAME, true, exact(TWO_32 + 10), exact(10));
        tellsNothing(SAME, true, unsigned(TWO_32, TWO_32 + 9), exact(5));
        tellsNothing(ABOVE, true, unsigned(TWO_32, TWO_32 + 9), exact(5));
        tellsNothing(NOT_BELOW, true, unsigned(TWO_32, TWO_32 + 9), exact(9));
        tellsNothing(MEET, true, unsigned(TWO_32, TWO_32 + 9), exact(8));
        tellsNothing(NOT_SAME, true, unsigned(TWO_32, TWO_32 + 9), exact(0));
        tellsNothing(BELOW, true, unsigned(TWO_32, TWO_32 + 9), exact(5));
        tellsNothing(NOT_ABOVE, true, unsigned(TWO_32, TWO_32 + 9), exact(0));
        tellsNothing(NOT_MEET, true, unsigned(TWO_32, TWO_32 + 9), exact(1));
        // Of the signed ones it is never said that they can't hold, though narrowed ones could tell it.
        for (int relation : SIGNED) {
            tellsNothing(relation, true, exact(TWO_31), exact(10));
            tellsNothing(relation, true, exact(10), exact(TWO_31));
            tellsNothing(relation, true, exact(TWO_31), exact(TWO_31));
            tellsNothing(relation, true, exact(MOST), exact(MOST));
            tellsNothing(relation, true, exact(TWO_32), exact(5));
            tellsNothing(relation, true, exact(5), exact(TWO_32));
        }
    }

    private static void narrowThatCannotHold() {
        cannotNarrow(SAME, exact(TWO_32), exact(10));
        cannotNarrow(SAME, exact(10), exact(TWO_32));
        cannotNarrow(SAME, unsigned(TWO_32, TWO_32 + 9), exact(10));
        cannotNarrow(ABOVE, exact(TWO_32), exact(10));
        cannotNarrow(ABOVE, exact(TWO_32 + 10), exact(10));
        cannotNarrow(ABOVE, any(), exact(LOW));
        cannotNarrow(ABOVE, exact(TWO_32), any());
        cannotNarrow(NOT_BELOW, exact(TWO_32 + 9), exact(10));
        cannotNarrow(MEET, exact(TWO_32), exact(MOST));
        cannotNarrow(MEET, exact(TWO_32 + 1), exact(TWO_32 + 2));
        cannotNarrow(NOT_SAME, exact(TWO_32 + 10), exact(10));
        cannotNarrow(NOT_SAME, exact(TWO_32), exact(MIN));
        cannotNarrow(BELOW, exact(TWO_32 + 10), exact(10));
        cannotNarrow(BELOW, exact(9), exact(TWO_32));
        cannotNarrow(BELOW, any(), exact(TWO_32));
        cannotNarrow(BELOW, exact(LOW), any());
        cannotNarrow(NOT_ABOVE, exact(TWO_32 + 11), exact(10));
        cannotNarrow(NOT_MEET, exact(TWO_32 + 3), exact(1));
        cannotNarrow(NOT_MEET, exact(MOST), exact(MOST));
        // They can hold of the narrowed ones, and as they are they could not.
        tellsNothing(SAME, true, exact(TWO_32 + 10), exact(10));
        tellsNothing(ABOVE, true, exact(11), exact(TWO_32 + 10));
        tellsNothing(NOT_BELOW, true, exact(10), exact(TWO_32 + 10));
        tellsNothing(NOT_SAME, true, exact(TWO_32 + 10), exact(11));
        tellsNothing(BELOW, true, exact(TWO_32), exact(10));
        tellsNothing(NOT_ABOVE, true, exact(TWO_32 + 10), exact(10));
        tellsNothing(NOT_MEET, true, exact(TWO_32 + 4), exact(TWO_32 + 3));
        tellsNothing(ABOVE, true, any(), exact(LOW - 1));
        tellsNothing(BELOW, true, any(), exact(TWO_32 + 1));
    }
}
