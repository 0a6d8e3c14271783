/** The sentences of the document that name a boundary case of promise 6 and the OPERATIONS, one test for each. */
public final class BoundaryOperationsTest extends ByHand {

    private static final int ADD = 0;
    private static final int SUBTRACT = 1;
    private static final int MULTIPLY = 2;
    private static final int DIVIDE = 3;
    private static final int REST = 4;
    private static final int AND = 5;
    private static final int OR = 6;
    private static final int XOR = 7;
    private static final int LEFT = 8;
    private static final int RIGHT = 9;
    private static final int RIGHT_SIGNED = 10;
    private static final int NEGATE = 11;
    private static final int MOVE = 12;
    private static final int SWAP = 13;
    private static final int CUT = 14;
    private static final int OPERATIONS = 15;

    private static final long TWO_62 = 1L << 62;
    private static final int[] WRONG_OPERATIONS = {-1, 15, 16, 31, 256, Integer.MIN_VALUE, Integer.MAX_VALUE};

    public static void main(String[] args) {
        calls();
        allOperations();
        sums();
        products();
        bitwise();
        shifts();
        bytes();
        narrowOnes();
        CHECK.end();
    }

    private static void calls() {
        CHECK.sentence("Promise 6", "Number into becomes that of an OPERATION (0 .. 14) of x and y",
                BoundaryOperationsTest::noSuchOperation);
        CHECK.sentence("Promise 6", "(any of them may be the same): true;",
                BoundaryOperationsTest::anyMayBeTheSame);
        CHECK.sentence("Promise 6", "false if there are no such ones.",
                BoundaryOperationsTest::noSuchNumbers);
    }

    private static void allOperations() {
        CHECK.sentence("Promise 6, LONGS", "sums and products wrap.",
                BoundaryOperationsTest::sumsAndProductsWrap);
        CHECK.sentence("Promise 6, OPERATIONS", "what is not told is as of ANY;",
                BoundaryOperationsTest::notTold);
        CHECK.sentence("Promise 6, OPERATIONS", "each result is settled;",
                BoundaryOperationsTest::resultIsSettled);
        CHECK.sentence("Promise 6, OPERATIONS",
                "one that came to be EMPTY by that (it can be so where no long agrees with x or y) is ANY:",
                BoundaryOperationsTest::emptyIsAny);
    }

    private static void sums() {
        CHECK.sentence("Promise 6, ADD", "bits: s = mask x + mask y, t = value x + value y,"
                + " u = ((s + t) ^ t) | mask x | mask y: mask u, value t without u.",
                BoundaryOperationsTest::bitsOfSums);
        CHECK.sentence("Promise 6, ADD", "Unsigned: the sums, if that of the greatest does not wrap.",
                BoundaryOperationsTest::sumsThatWrap);
        CHECK.sentence("Promise 6, ADD", "Signed: the sums, if neither overflows.",
                BoundaryOperationsTest::sumsThatOverflow);
        CHECK.sentence("Promise 6, SUBTRACT", "bits: t = value x - value y,"
                + " u = ((t + mask x) ^ (t - mask y)) | mask x | mask y: mask u, value t without u.",
                BoundaryOperationsTest::bitsOfDifferences);
        CHECK.sentence("Promise 6, SUBTRACT", "Unsigned: [least x - greatest y, greatest x - least y]"
                + " if least x is not below greatest y.",
                BoundaryOperationsTest::differencesThatWrap);
        CHECK.sentence("Promise 6, SUBTRACT",
                "Signed: {least x - greatest y, greatest x - least y}, if neither overflows.",
                BoundaryOperationsTest::differencesThatOverflow);
        CHECK.sentence("Promise 6, NEGATE", "11 NEGATE: SUBTRACT of EXACT 0 and x.",
                BoundaryOperationsTest::negate);
    }

    private static void products() {
        CHECK.sentence("Promise 6, MULTIPLY", "2 MULTIPLY: EXACT, if both are.",
                BoundaryOperationsTest::exactProducts);
        CHECK.sentence("Promise 6, MULTIPLY", "as many lowest bits as x and y together have lowest bits that are"
                + " known 0 (64 at most) are 0, known.",
                BoundaryOperationsTest::lowestBitsOfProducts);
        CHECK.sentence("Promise 6, MULTIPLY", "Unsigned: the products of the bounds, if both greatest are not above LOW.",
                BoundaryOperationsTest::boundsOfProducts);
        CHECK.sentence("Promise 6, DIVIDE", "3 DIVIDE (unsigned; by 0 it is 0): y EXACT 0: EXACT 0;",
                BoundaryOperationsTest::divideByZero);
        CHECK.sentence("Promise 6, DIVIDE", "y EXACT c: [least / c, greatest / c];",
                BoundaryOperationsTest::divideByExact);
        CHECK.sentence("Promise 6, DIVIDE", "[least / c, greatest / c]; else [0, greatest x].",
                BoundaryOperationsTest::divideByOther);
        CHECK.sentence("Promise 6, REST", "4 REST (by 0: x): y EXACT 0: x;",
                BoundaryOperationsTest::restByZero);
        CHECK.sentence("Promise 6, REST", "y EXACT c: x, if its greatest is below c, else [0, c - 1];",
                BoundaryOperationsTest::restByExact);
        CHECK.sentence("Promise 6, REST", "else [0, c - 1]; else [0, greatest x].",
                BoundaryOperationsTest::restByOther);
    }

    private static void bitwise() {
        CHECK.sentence("Promise 6, AND", "5 AND: value: both values; mask: what may be 1 in both, without the value."
                + " [0, the lesser greatest].",
                BoundaryOperationsTest::and);
        CHECK.sentence("Promise 6, OR", "6 OR: value: either; mask: either, without the value. [the greater least, MOST].",
                BoundaryOperationsTest::or);
        CHECK.sentence("Promise 6, XOR", "7 XOR: mask: either; value: values' XOR without the mask.",
                BoundaryOperationsTest::xor);
    }

    private static void shifts() {
        CHECK.sentence("Promise 6, LEFT, RIGHT, RIGHT SIGNED", "if y is not EXACT ANY.",
                BoundaryOperationsTest::shiftByOther);
        CHECK.sentence("Promise 6, LEFT, RIGHT, RIGHT SIGNED", "By s, its lowest 6 bits: bits are shifted",
                BoundaryOperationsTest::shiftByNoneAndMost);
        CHECK.sentence("Promise 6, RIGHT", "9 RIGHT (zeros come in)",
                BoundaryOperationsTest::zerosComeIn);
        CHECK.sentence("Promise 6, RIGHT SIGNED", "(value and mask; for 10 both as signed).",
                BoundaryOperationsTest::bothAsSigned);
        CHECK.sentence("Promise 6, LEFT", "8: [least, greatest] shifted, if greatest has no 1 among the s highest bits.",
                BoundaryOperationsTest::boundsToTheLeft);
        CHECK.sentence("Promise 6, RIGHT", "9: [least, greatest] shifted.",
                BoundaryOperationsTest::boundsToTheRight);
        CHECK.sentence("Promise 6, RIGHT SIGNED", "10: {least, greatest} shifted.",
                BoundaryOperationsTest::signedBoundsToTheRight);
    }

    private static void bytes() {
        CHECK.sentence("Promise 6, MOVE", "12 MOVE: y.",
                BoundaryOperationsTest::move);
        CHECK.sentence("Promise 6, SWAP", "13 SWAP of y bytes (2, 4, 8 if that is what EXACT y is, else 8):",
                BoundaryOperationsTest::swapOfNoSuchCount);
        CHECK.sentence("Promise 6, SWAP", "the lowest so many bytes of x in turn, the rest 0: EXACT, if x is;",
                BoundaryOperationsTest::swapOfExact);
        CHECK.sentence("Promise 6, SWAP", "else, of 2 or 4, [0, the greatest of so many]; of 8 ANY.",
                BoundaryOperationsTest::swapOfOther);
        CHECK.sentence("Promise 6, CUT", "14 CUT to y bytes (likewise): of 8 x;",
                BoundaryOperationsTest::cutToEight);
        CHECK.sentence("Promise 6, CUT", "else AND of x and EXACT the greatest of so many bytes",
                BoundaryOperationsTest::cutToFewer);
        CHECK.sentence("Promise 6, CUT", "(but x itself, if its greatest is not above that).",
                BoundaryOperationsTest::cutThatTakesNothing);
    }

    private static void narrowOnes() {
        CHECK.sentence("Promise 6, NARROW", "NARROW operations: x and y are NARROWED first,",
                BoundaryOperationsTest::narrowedFirst);
        CHECK.sentence("Promise 6, NARROW", "are NARROWED first, and the result is;",
                BoundaryOperationsTest::resultIsNarrowed);
        CHECK.sentence("Promise 6, NARROW", "for 8, 9, 10 s is the lowest 5 bits;",
                BoundaryOperationsTest::narrowShifts);
        CHECK.sentence("Promise 6, NARROW",
                "10 narrow: if the greatest of x (narrowed) is below 2^31 as 9, else ANY (narrowed).",
                BoundaryOperationsTest::narrowRightSigned);
        CHECK.sentence("Promise 6, TO NARROW", "TO NARROW: x itself, if its greatest is not above LOW;",
                BoundaryOperationsTest::narrowAlready);
        CHECK.sentence("Promise 6, TO NARROW", "else bits: those of LOW alone, the others 0, known;",
                BoundaryOperationsTest::narrowBits);
        CHECK.sentence("Promise 6, TO NARROW",
                "unsigned, if the highest 32 bits of least and greatest are the same: the lowest 32 of both;",
                BoundaryOperationsTest::narrowBoundsOfSameHighBits);
        CHECK.sentence("Promise 6, TO NARROW", "the lowest 32 of both; else [0, LOW];",
                BoundaryOperationsTest::narrowBoundsOfOtherHighBits);
        CHECK.sentence("Promise 6, TO NARROW", "signed {0, LOW}; settled",
                BoundaryOperationsTest::narrowSignedBounds);
        CHECK.sentence("Promise 6, TO NARROW",
                "(EMPTY by that: the bits of LOW not known, [0, LOW], {0, LOW}).",
                BoundaryOperationsTest::narrowOfHollowOnes);
    }

    // ---- The call

    private static void noSuchOperation() {
        for (int operation : WRONG_OPERATIONS) {
            RangeDesk desk = marked();
            for (int i = 0; i < Check.NUMBERS; i++) {
                CHECK.due("operation " + operation, desk.operate(i, operation, 1, 2, false), false);
                CHECK.due("operation " + operation + " narrow", desk.operate(i, operation, 1, 2, true), false);
                CHECK.due("operation " + operation + " of none", desk.operate(i, operation, -1, 16, true), false);
            }
            isStillMarked("operation " + operation, desk);
        }
        for (int operation = 0; operation < OPERATIONS; operation++) {
            RangeDesk desk = marked();
            CHECK.due("operation " + operation, desk.operate(0, operation, 1, 2, false), true);
            CHECK.due("operation " + operation + " narrow", desk.operate(15, operation, 1, 2, true), true);
        }
        operates(ADD, exact(5), exact(6), knownExact(11));
        operates(CUT, exact(0x12345), exact(2), knownExact(0x2345));
    }

    private static void anyMayBeTheSame() {
        Setting[] numbers = {
            exact(21), exact(2), exact(0), exact(MOST), exact(MIN), any(), bits(12, 3), unsigned(10, 20),
            unsigned(MAX, MIN), signed(-5, 3), unsigned(TWO_32 + 3, TWO_32 + 9)};
        for (int operation = 0; operation < OPERATIONS; operation++) {
            for (Setting x : numbers) {
                intoSame(operation, x, x, X, X);
                for (Setting y : numbers) {
                    intoSame(operation, x, y, X, Y);
                }
            }
        }
    }

    /** What comes into a third number of x and y comes into x or y, too; xAt may be yAt where x is y. */
    private static void intoSame(int operation, Setting x, Setting y, int xAt, int yAt) {
        for (int into : new int[] {xAt, yAt, R}) {
            for (int narrow = 0; narrow < 2; narrow++) {
                RangeDesk apart = desk(x, y);
                CHECK.due("operate", apart.operate(R, operation, X, Y, narrow == 1), true);
                RangeDesk desk = desk(x, y);
                CHECK.due("operate", desk.operate(into, operation, xAt, yAt, narrow == 1), true);
                CHECK.number("operation " + operation + " into " + into, desk, into, Check.all(apart, R));
                int other = into == X ? Y : X;
                CHECK.number("the number beside " + into, desk, other, Check.all(apart, other));
            }
        }
    }

    private static void noSuchNumbers() {
        for (int operation = 0; operation < OPERATIONS; operation++) {
            for (int i : Check.WRONG_NUMBERS) {
                RangeDesk desk = marked();
                CHECK.due("operate into " + i, desk.operate(i, operation, 0, 15, false), false);
                CHECK.due("operate of x " + i, desk.operate(0, operation, i, 15, false), false);
                CHECK.due("operate of y " + i, desk.operate(15, operation, 0, i, false), false);
                CHECK.due("operate narrow into " + i, desk.operate(i, operation, 0, 15, true), false);
                CHECK.due("operate narrow of x " + i, desk.operate(0, operation, i, 15, true), false);
                CHECK.due("operate narrow of y " + i, desk.operate(15, operation, 0, i, true), false);
                CHECK.due("operate of all " + i, desk.operate(i, operation, i, i, false), false);
                isStillMarked("operate of " + i, desk);
            }
        }
        RangeDesk desk = marked();
        CHECK.due("operate into 0 of 15 and 0", desk.operate(0, ADD, 15, 0, false), true);
        CHECK.exact("operate into 0", desk, 0, 215);
        CHECK.due("operate into 15 of 0 and 15", desk.operate(15, SUBTRACT, 0, 15, false), true);
        CHECK.exact("operate into 15", desk, 15, 100);
    }

    // ---- What holds of all operations

    private static void sumsAndProductsWrap() {
        operates(ADD, exact(MOST), exact(1), knownExact(0));
        operates(ADD, exact(MOST), exact(MOST), knownExact(MOST - 1));
        operates(ADD, exact(MAX), exact(1), knownExact(MIN));
        operates(ADD, exact(MIN), exact(MIN), knownExact(0));
        operates(ADD, exact(MIN), exact(-1), knownExact(MAX));
        operates(SUBTRACT, exact(0), exact(1), knownExact(MOST));
        operates(SUBTRACT, exact(MIN), exact(1), knownExact(MAX));
        operates(SUBTRACT, exact(0), exact(MIN), knownExact(MIN));
        operates(SUBTRACT, exact(MAX), exact(MOST), knownExact(MIN));
        operates(MULTIPLY, exact(MIN), exact(2), knownExact(0));
        operates(MULTIPLY, exact(MOST), exact(MOST), knownExact(1));
        operates(MULTIPLY, exact(TWO_32), exact(TWO_32), knownExact(0));
        operates(MULTIPLY, exact(TWO_32 + 1), exact(TWO_32 + 1), knownExact(2 * TWO_32 + 1));
        operates(MULTIPLY, exact(MAX), exact(2), knownExact(-2));
        operates(MULTIPLY, exact(MIN), exact(-1), knownExact(MIN));
    }

    /** Of bounds and bits that x and y have, but that the operation says nothing of, nothing comes. */
    private static void notTold() {
        operates(MULTIPLY, unsigned(1, LOW + 1), unsigned(1, 2), knownAny());
        operates(MULTIPLY, signed(-2, 3), signed(-2, 3), knownAny());
        operates(DIVIDE, bits(8, -16), exact(1), 0, MOST, 8, MOST - 7, MIN, MAX);
        operates(DIVIDE, signed(-5, 5), exact(1), knownAny());
        operates(REST, bits(0, -2), exact(MIN), 0, MAX, 0, MAX, 0, MAX);
        operates(REST, bits(0, -2), unsigned(1, 2), 0, MOST, 0, MOST - 1, MIN, MAX);
        operates(AND, unsigned(5, MIN), signed(MIN + 1, 7), 0, MOST, 0, MIN, MIN, MAX);
        operates(AND, signed(-5, 7), unsigned(5, MIN), 0, MOST, 0, MIN, MIN, MAX);
        operates(OR, unsigned(5, MIN), signed(-5, 7), 0, MOST, 5, MOST, MIN, MAX);
        operates(OR, signed(-5, 7), unsigned(5, MIN), 0, MOST, 5, MOST, MIN, MAX);
        operates(XOR, unsigned(5, MIN), signed(-5, 7), knownAny());
        operates(XOR, signed(-5, 7), unsigned(5, MIN), knownAny());
        operates(LEFT, signed(-1, 1), exact(0), knownAny());
        operates(RIGHT, signed(-1, 1), exact(0), knownAny());
        operates(RIGHT_SIGNED, unsigned(5, MIN), exact(0), knownAny());
        operates(SWAP, bits(0x1200, 1), exact(2), 0, 65535, 0, 65535, 0, 65535);
    }

    private static void resultIsSettled() {
        operates(ADD, bits(12, 3), exact(4), 16, 3, 16, 19, 16, 19);
        operates(MULTIPLY, unsigned(2, 3), unsigned(4, 5), 8, 7, 8, 15, 8, 15);
        operates(DIVIDE, unsigned(24, 31), exact(2), 12, 3, 12, 15, 12, 15);
        operates(REST, any(), exact(4), 0, 3, 0, 3, 0, 3);
        operates(AND, any(), bits(0, 6), 0, 6, 0, 6, 0, 6);
        operates(OR, unsigned(MIN, MOST), unsigned(MIN + 5, MOST), MIN, MAX, MIN + 5, MOST, MIN + 5, -1);
        operates(XOR, bits(12, 3), exact(5), 8, 3, 8, 11, 8, 11);
        operates(RIGHT_SIGNED, signed(-20, -9), exact(1), -16, 15, -10, -5, -10, -5);
        operates(SWAP, any(), exact(2), 0, 65535, 0, 65535, 0, 65535);
    }

    private static void emptyIsAny() {
        operates(SUBTRACT, hollow(), exact(4), knownAny());
        operates(ADD, hollow(), exact(-4), knownAny());
        narrow(SUBTRACT, hollow(), exact(4), knownAnyNarrow());
        RangeDesk desk = desk(hollow(), exact(4));
        CHECK.due("SUBTRACT into a hollow x", desk.operate(X, SUBTRACT, X, Y, false), true);
        CHECK.any("SUBTRACT into a hollow x", desk, X);
        // Not every result of a number that stands for no long is EMPTY.
        operates(MOVE, any(), hollow(), 2, 9, 4, 9, 4, 9);
        operates(REST, hollow(), exact(0), 2, 9, 4, 9, 4, 9);
        operates(CUT, hollow(), exact(2), 2, 9, 4, 9, 4, 9);
        operates(ADD, hollow(), exact(16), 18, 9, 20, 25, 20, 25);
        operates(LEFT, hollow(), exact(1), 4, 18, 8, 18, 8, 18);
    }

    // ---- ADD, SUBTRACT, NEGATE

    private static void bitsOfSums() {
        operates(ADD, bits(12, 3), exact(4), 16, 3, 16, 19, 16, 19);
        operates(ADD, bits(0, 4), bits(0, 4), 0, 12, 0, 8, 0, 8);
        operates(ADD, bits(1, -4), exact(2), 3, -4, 3, MOST, MIN, MAX);
        operates(ADD, bits(0, 1), exact(1), 0, 3, 1, 2, 1, 2);
        operates(ADD, bits(0, -4), bits(0, -2), 0, -2, 0, MOST - 1, MIN, MAX);
        operates(ADD, any(), exact(0), knownAny());
        operates(ADD, any(), any(), knownAny());
        // The carry out of the highest place is lost.
        operates(ADD, bits(MIN, 1), exact(MIN), 0, 1, 0, 1, 0, 1);
        operates(ADD, bits(0, MIN), bits(0, MIN), 0, MIN, 0, MIN, MIN, MAX);
        operates(ADD, bits(5, MIN), exact(MIN), 5, MIN, 5, MIN + 5, MIN, MAX);
        operates(ADD, bits(1, MIN), bits(2, MIN), 3, MIN, 3, MIN + 3, MIN, MAX);
    }

    private static void sumsThatWrap() {
        operates(ADD, unsigned(0, MOST - 5), unsigned(1, 5), 0, MOST, 1, MOST, MIN, MAX);
        operates(ADD, unsigned(0, MOST - 4), unsigned(1, 5), knownAny());
        operates(ADD, unsigned(1, 5), unsigned(0, MOST - 5), 0, MOST, 1, MOST, MIN, MAX);
        operates(ADD, unsigned(1, 5), unsigned(0, MOST - 4), knownAny());
        operates(ADD, unsigned(3, MIN), unsigned(4, MAX), 0, MOST, 7, MOST, MIN, MAX);
        operates(ADD, unsigned(3, MIN), unsigned(4, MIN), knownAny());
        operates(ADD, unsigned(3, MOST), exact(0), 0, MOST, 3, MOST, MIN, MAX);
        operates(ADD, exact(0), unsigned(3, MOST), 0, MOST, 3, MOST, MIN, MAX);
        operates(ADD, unsigned(3, MOST), exact(1), knownAny());
        operates(ADD, unsigned(3, MOST), unsigned(3, MOST), knownAny());
        operates(ADD, unsigned(MOST - 1, MOST), exact(0), -2, 1, -2, -1, -2, -1);
        // The sums of both ends wrap; the signed ones tell all.
        operates(ADD, unsigned(MOST - 2, MOST), unsigned(3, 9), 0, 15, 0, 8, 0, 8);
        operates(ADD, unsigned(0, 1), exact(MOST), 0, MOST, 0, MOST, -1, 0);
    }

    private static void sumsThatOverflow() {
        operates(ADD, signed(MIN + 1, 0), signed(-1, 5), 0, MOST, 0, MOST, MIN, 5);
        operates(ADD, signed(MIN + 1, 0), signed(-2, 5), knownAny());
        operates(ADD, signed(-1, 5), signed(MIN + 1, 0), 0, MOST, 0, MOST, MIN, 5);
        operates(ADD, signed(-2, 5), signed(MIN + 1, 0), knownAny());
        operates(ADD, signed(-1, MAX - 5), signed(-1, 5), 0, MOST, 0, MOST, -2, MAX);
        operates(ADD, signed(-1, MAX - 5), signed(-1, 6), knownAny());
        operates(ADD, signed(-1, 5), signed(-1, MAX - 5), 0, MOST, 0, MOST, -2, MAX);
        operates(ADD, signed(-1, 6), signed(-1, MAX - 5), knownAny());
        operates(ADD, signed(MIN, MAX - 1), signed(0, 1), 0, MOST, 0, MOST, MIN, MAX);
        operates(ADD, signed(MIN, MAX), signed(-1, 1), knownAny());
        operates(ADD, signed(MIN, -1), signed(0, MAX), 0, MOST, 0, MOST, MIN, MAX - 1);
        operates(ADD, signed(MIN + 1, 3), exact(-1), 0, MOST, 0, MOST, MIN, 2);
        operates(ADD, signed(MIN, 3), exact(-1), knownAny());
        // What wraps would look like bounds in order.
        operates(ADD, signed(MIN, 0), signed(MIN, 5), knownAny());
        operates(ADD, signed(-1, MAX), signed(-1, MAX), knownAny());
        // One of both ends overflows, and then both: the unsigned ones tell all.
        operates(ADD, unsigned(MAX - 1, MAX), exact(1), 0, MOST, MAX, MIN, MIN, MAX);
        operates(ADD, unsigned(MAX - 1, MAX), exact(2), MIN, 1, MIN, MIN + 1, MIN, MIN + 1);
    }

    private static void bitsOfDifferences() {
        operates(SUBTRACT, bits(12, 3), exact(4), 8, 3, 8, 11, 8, 11);
        operates(SUBTRACT, exact(15), bits(0, 3), 12, 3, 12, 15, 12, 15);
        operates(SUBTRACT, bits(0, -4), exact(1), 3, -4, 3, MOST, MIN, MAX);
        operates(SUBTRACT, exact(0), bits(0, -4), 0, -4, 0, -4, MIN, MAX);
        operates(SUBTRACT, any(), exact(0), knownAny());
        operates(SUBTRACT, any(), any(), knownAny());
        // The borrow out of the highest place is lost.
        operates(SUBTRACT, bits(5, MIN), exact(MIN), 5, MIN, 5, MIN + 5, MIN, MAX);
        operates(SUBTRACT, exact(5), bits(1, MIN), 4, MIN, 4, MIN + 4, MIN, MAX);
        operates(SUBTRACT, exact(0), bits(MIN, MAX - 1), 0, -2, 0, -2, MIN, MAX);
    }

    private static void differencesThatWrap() {
        operates(SUBTRACT, unsigned(MIN + 5, MOST), unsigned(3, MIN + 5), 0, MOST, 0, MOST - 3, MIN, MAX);
        operates(SUBTRACT, unsigned(MIN + 5, MOST), unsigned(3, MIN + 4), 0, MOST, 1, MOST - 3, MIN, MAX);
        operates(SUBTRACT, unsigned(MIN + 5, MOST), unsigned(3, MIN + 6), knownAny());
        operates(SUBTRACT, unsigned(MIN, MIN + 1), unsigned(0, MAX), 0, MOST, 1, MIN + 1, MIN, MAX);
        operates(SUBTRACT, unsigned(10, 20), unsigned(3, 10), 0, 31, 0, 17, 0, 17);
        operates(SUBTRACT, unsigned(9, 20), unsigned(3, 10), 0, MOST, 0, MOST, -1, 17);
        operates(SUBTRACT, unsigned(5, MOST), exact(5), 0, MOST, 0, MOST - 5, MIN, MAX);
        operates(SUBTRACT, unsigned(5, MOST), exact(6), knownAny());
        operates(SUBTRACT, exact(MOST), unsigned(1, MOST), 0, MOST, 0, MOST - 1, MIN, MAX);
        operates(SUBTRACT, exact(MOST - 1), unsigned(1, MOST), knownAny());
        operates(SUBTRACT, unsigned(3, MOST), exact(0), 0, MOST, 3, MOST, MIN, MAX);
        operates(SUBTRACT, exact(0), unsigned(0, 1), 0, MOST, 0, MOST, -1, 0);
        operates(SUBTRACT, unsigned(MOST - 1, MOST), exact(MOST), 0, MOST, 0, MOST, -1, 0);
    }

    private static void differencesThatOverflow() {
        operates(SUBTRACT, signed(MIN + 1, 0), signed(-3, 1), 0, MOST, 0, MOST, MIN, 3);
        operates(SUBTRACT, signed(MIN + 1, 0), signed(-3, 2), knownAny());
        operates(SUBTRACT, signed(-1, MAX - 3), signed(-3, 1), 0, MOST, 0, MOST, -2, MAX);
        operates(SUBTRACT, signed(-1, MAX - 3), signed(-4, 1), knownAny());
        operates(SUBTRACT, signed(-1, 0), signed(MIN + 1, 5), 0, MOST, 0, MOST, -6, MAX);
        operates(SUBTRACT, signed(-1, 0), signed(MIN, 5), knownAny());
        operates(SUBTRACT, signed(-1, 3), signed(-5, MAX), 0, MOST, 0, MOST, MIN, 8);
        operates(SUBTRACT, signed(-2, 3), signed(-5, MAX), knownAny());
        operates(SUBTRACT, signed(MIN, -1), signed(MIN, -1), 0, MOST, 0, MOST, MIN + 1, MAX);
        operates(SUBTRACT, signed(0, MAX), signed(0, MAX), 0, MOST, 0, MOST, -MAX, MAX);
        operates(SUBTRACT, exact(-1), signed(MIN, MAX), knownAny());
        operates(SUBTRACT, signed(MIN, MAX), exact(0), knownAny());
        operates(SUBTRACT, signed(MIN, MAX), exact(1), knownAny());
        // What wraps would look like bounds in order.
        operates(SUBTRACT, signed(MIN, 5), signed(1, MAX), knownAny());
        operates(SUBTRACT, signed(-5, MAX), signed(MIN, 1), knownAny());
        // One of both ends overflows: the unsigned ones tell all.
        operates(SUBTRACT, unsigned(MIN, MIN + 1), exact(1), 0, MOST, MAX, MIN, MIN, MAX);
    }

    private static void negate() {
        operates(NEGATE, exact(0), any(), knownExact(0));
        operates(NEGATE, exact(MIN), any(), knownExact(MIN));
        operates(NEGATE, exact(MAX), exact(3), knownExact(MIN + 1));
        operates(NEGATE, exact(MOST), exact(3), knownExact(1));
        operates(NEGATE, any(), exact(0), knownAny());
        operates(NEGATE, signed(MIN + 1, MAX), exact(0), 0, MOST, 0, MOST, -MAX, MAX);
        operates(NEGATE, signed(MIN, 3), exact(0), knownAny());
        operates(NEGATE, signed(-3, 4), exact(0), 0, MOST, 0, MOST, -4, 3);
        operates(NEGATE, unsigned(0, 1), exact(0), 0, MOST, 0, MOST, -1, 0);
        operates(NEGATE, unsigned(1, 5), exact(0), -8, 7, -5, -1, -5, -1);
        operates(NEGATE, bits(0, -4), exact(0), 0, -4, 0, -4, MIN, MAX);
    }

    // ---- MULTIPLY, DIVIDE, REST

    private static void exactProducts() {
        operates(MULTIPLY, exact(0), exact(MOST), knownExact(0));
        operates(MULTIPLY, exact(1), exact(MOST), knownExact(MOST));
        operates(MULTIPLY, exact(LOW), exact(LOW), knownExact(0xFFFFFFFE00000001L));
        operates(MULTIPLY, exact(LOW + 1), exact(LOW), knownExact(0xFFFFFFFF00000000L));
        operates(MULTIPLY, exact(TWO_32), exact(TWO_32), knownExact(0));
        operates(MULTIPLY, exact(-3), exact(5), knownExact(-15));
        // One alone is not enough.
        operates(MULTIPLY, exact(3), unsigned(1, 2), 0, 7, 3, 6, 3, 6);
        operates(MULTIPLY, unsigned(1, 2), exact(3), 0, 7, 3, 6, 3, 6);
        operates(MULTIPLY, exact(1), any(), knownAny());
    }

    private static void lowestBitsOfProducts() {
        operates(MULTIPLY, exact(1), bits(0, MIN), 0, MIN, 0, MIN, MIN, MAX);
        operates(MULTIPLY, exact(2), bits(0, MIN), knownExact(0));
        operates(MULTIPLY, exact(4), bits(0, MIN), knownExact(0));
        operates(MULTIPLY, bits(0, MIN), bits(0, MIN), knownExact(0));
        operates(MULTIPLY, exact(MIN), any(), 0, MIN, 0, MIN, MIN, MAX);
        operates(MULTIPLY, any(), exact(MIN), 0, MIN, 0, MIN, MIN, MAX);
        operates(MULTIPLY, exact(MIN), bits(0, -2), knownExact(0));
        operates(MULTIPLY, exact(0), any(), knownExact(0));
        operates(MULTIPLY, any(), exact(0), knownExact(0));
        operates(MULTIPLY, exact(0), bits(0, MIN), knownExact(0));
        operates(MULTIPLY, bits(0, -TWO_32), bits(0, -TWO_32), knownExact(0));
        operates(MULTIPLY, bits(0, -TWO_32), bits(0, -TWO_31), 0, MIN, 0, MIN, MIN, MAX);
        operates(MULTIPLY, bits(8, -16), any(), 0, -8, 0, -8, MIN, MAX);
        operates(MULTIPLY, bits(0, -4), bits(0, -8), 0, -32, 0, -32, MIN, MAX);
        // A known 0 above one that is not known, and known 1s, don't count.
        operates(MULTIPLY, bits(0, 1), any(), knownAny());
        operates(MULTIPLY, bits(1, -2), bits(1, -2), knownAny());
        operates(MULTIPLY, any(), any(), knownAny());
    }

    private static void boundsOfProducts() {
        operates(MULTIPLY, unsigned(2, LOW), unsigned(3, LOW), 0, MOST, 6, 0xFFFFFFFE00000001L, MIN, MAX);
        operates(MULTIPLY, unsigned(2, LOW), unsigned(3, LOW + 1), knownAny());
        operates(MULTIPLY, unsigned(2, LOW + 1), unsigned(3, LOW), knownAny());
        operates(MULTIPLY, unsigned(2, LOW + 1), unsigned(1, 2), knownAny());
        operates(MULTIPLY, unsigned(1, 2), unsigned(2, LOW + 1), knownAny());
        operates(MULTIPLY, unsigned(0, MOST), unsigned(0, 1), knownAny());
        operates(MULTIPLY, unsigned(3, MOST), exact(1), knownAny());
        operates(MULTIPLY, exact(1), unsigned(3, MOST), knownAny());
        operates(MULTIPLY, unsigned(3, MIN), exact(1), knownAny());
        operates(MULTIPLY, exact(1), unsigned(3, MIN), knownAny());
        operates(MULTIPLY, exact(LOW), unsigned(LOW - 1, LOW), 0xFFFFFFFC00000000L, 0x3FFFFFFFFL,
                0xFFFFFFFD00000002L, 0xFFFFFFFE00000001L, 0xFFFFFFFD00000002L, 0xFFFFFFFE00000001L);
        operates(MULTIPLY, unsigned(0, 1), unsigned(0, LOW), 0, LOW, 0, LOW, 0, LOW);
        operates(MULTIPLY, unsigned(2, 3), unsigned(4, 5), 8, 7, 8, 15, 8, 15);
    }

    private static void divideByZero() {
        for (Setting x : new Setting[] {exact(0), exact(1), exact(MOST), exact(MIN), any(), unsigned(10, 20), hollow()}) {
            operates(DIVIDE, x, exact(0), knownExact(0));
            operates(DIVIDE, x, unsigned(0, 0), knownExact(0));
            narrow(DIVIDE, x, exact(TWO_32), knownExact(0));
        }
    }

    private static void divideByExact() {
        operates(DIVIDE, unsigned(10, 20), exact(3), 0, 7, 3, 6, 3, 6);
        operates(DIVIDE, unsigned(5, MIN), exact(1), 0, MOST, 5, MIN, MIN, MAX);
        operates(DIVIDE, any(), exact(1), knownAny());
        operates(DIVIDE, bits(8, 5), exact(1), 8, 7, 8, 13, 8, 13);
        operates(DIVIDE, any(), exact(2), 0, MAX, 0, MAX, 0, MAX);
        operates(DIVIDE, any(), exact(MIN), 0, 1, 0, 1, 0, 1);
        operates(DIVIDE, any(), exact(MAX), 0, 3, 0, 2, 0, 2);
        operates(DIVIDE, unsigned(MAX - 1, MIN), exact(MAX), 0, 1, 0, 1, 0, 1);
        operates(DIVIDE, unsigned(MAX, MIN), exact(MAX), knownExact(1));
        operates(DIVIDE, unsigned(MOST - 2, MOST - 1), exact(MAX), 0, 3, 1, 2, 1, 2);
        operates(DIVIDE, any(), exact(MOST), 0, 1, 0, 1, 0, 1);
        operates(DIVIDE, unsigned(0, MOST - 1), exact(MOST), knownExact(0));
        operates(DIVIDE, exact(MOST), exact(MOST), knownExact(1));
        operates(DIVIDE, unsigned(MAX, MIN), exact(MIN), 0, 1, 0, 1, 0, 1);
        operates(DIVIDE, exact(MAX), exact(MIN), knownExact(0));
        operates(DIVIDE, exact(MIN), exact(-1), knownExact(0));
        operates(DIVIDE, exact(-8), exact(2), knownExact(0x7FFFFFFFFFFFFFFCL));
        operates(DIVIDE, unsigned(0, 5), exact(5), 0, 1, 0, 1, 0, 1);
        operates(DIVIDE, unsigned(0, 5), exact(6), knownExact(0));
        operates(DIVIDE, unsigned(MIN + 2, MOST), exact(2), TWO_62, TWO_62 - 1, TWO_62 + 1, MAX, TWO_62 + 1, MAX);
    }

    private static void divideByOther() {
        operates(DIVIDE, unsigned(10, 20), unsigned(0, 1), 0, 31, 0, 20, 0, 20);
        operates(DIVIDE, unsigned(10, 20), unsigned(2, 3), 0, 31, 0, 20, 0, 20);
        operates(DIVIDE, unsigned(10, 20), any(), 0, 31, 0, 20, 0, 20);
        operates(DIVIDE, unsigned(10, 20), sevenAlone(), 0, 31, 0, 20, 0, 20);
        operates(DIVIDE, exact(0), any(), knownExact(0));
        operates(DIVIDE, exact(7), any(), 0, 7, 0, 7, 0, 7);
        operates(DIVIDE, any(), any(), knownAny());
        operates(DIVIDE, unsigned(5, MIN), unsigned(1, 2), 0, MOST, 0, MIN, MIN, MAX);
    }

    private static void restByZero() {
        operates(REST, exact(0), exact(0), knownExact(0));
        operates(REST, exact(MOST), exact(0), knownExact(MOST));
        operates(REST, any(), exact(0), knownAny());
        operates(REST, bits(12, 3), exact(0), 12, 3, 12, 15, 12, 15);
        operates(REST, signed(-1, 1), exact(0), 0, MOST, 0, MOST, -1, 1);
        operates(REST, hollow(), exact(0), 2, 9, 4, 9, 4, 9);
        narrow(REST, exact(TWO_32 + 9), exact(TWO_32), knownExact(9));
    }

    private static void restByExact() {
        operates(REST, unsigned(1, 5), exact(6), 0, 7, 1, 5, 1, 5);
        operates(REST, unsigned(1, 5), exact(5), 0, 7, 0, 4, 0, 4);
        operates(REST, bits(12, 3), exact(16), 12, 3, 12, 15, 12, 15);
        operates(REST, bits(12, 3), exact(15), 0, 15, 0, 14, 0, 14);
        operates(REST, bits(8, 5), exact(14), 8, 5, 8, 13, 8, 13);
        operates(REST, bits(8, 5), exact(13), 0, 15, 0, 12, 0, 12);
        operates(REST, exact(7), exact(7), 0, 7, 0, 6, 0, 6);
        operates(REST, exact(7), exact(8), knownExact(7));
        operates(REST, exact(7), exact(1), knownExact(0));
        operates(REST, any(), exact(1), knownExact(0));
        operates(REST, any(), exact(2), 0, 1, 0, 1, 0, 1);
        operates(REST, exact(0), exact(1), knownExact(0));
        operates(REST, any(), exact(MOST), 0, MOST, 0, MOST - 1, MIN, MAX);
        operates(REST, unsigned(5, MOST - 1), exact(MOST), 0, MOST, 5, MOST - 1, MIN, MAX);
        operates(REST, exact(MOST), exact(MOST), 0, MOST, 0, MOST - 1, MIN, MAX);
        operates(REST, unsigned(5, MAX), exact(MIN), 0, MAX, 5, MAX, 5, MAX);
        operates(REST, unsigned(5, MIN), exact(MIN), 0, MAX, 0, MAX, 0, MAX);
        operates(REST, unsigned(5, MIN), exact(MIN + 1), 0, MOST, 5, MIN, MIN, MAX);
        operates(REST, exact(5), exact(-1), knownExact(5));
    }

    private static void restByOther() {
        operates(REST, bits(12, 3), unsigned(1, 2), 0, 15, 0, 15, 0, 15);
        operates(REST, bits(12, 3), unsigned(0, 1), 0, 15, 0, 15, 0, 15);
        operates(REST, unsigned(1, 5), unsigned(6, 7), 0, 7, 0, 5, 0, 5);
        operates(REST, unsigned(1, 5), sevenAlone(), 0, 7, 0, 5, 0, 5);
        operates(REST, exact(0), any(), knownExact(0));
        operates(REST, any(), any(), knownAny());
        operates(REST, unsigned(5, MIN), any(), 0, MOST, 0, MIN, MIN, MAX);
    }

    // ---- AND, OR, XOR

    private static void and() {
        operates(AND, any(), exact(0), knownExact(0));
        operates(AND, exact(0), any(), knownExact(0));
        operates(AND, any(), exact(MOST), knownAny());
        operates(AND, exact(MOST), exact(MOST), knownExact(MOST));
        operates(AND, bits(12, 3), bits(10, 5), 8, 7, 8, 15, 8, 15);
        operates(AND, bits(8, 4), bits(4, 8), 0, 12, 0, 12, 0, 12);
        operates(AND, bits(MIN, 1), bits(MIN, 2), knownExact(MIN));
        operates(AND, unsigned(5, MIN), unsigned(6, MIN + 1), 0, MOST, 0, MIN, MIN, MAX);
        operates(AND, unsigned(6, MIN + 1), unsigned(5, MIN), 0, MOST, 0, MIN, MIN, MAX);
        operates(AND, unsigned(0, MAX), unsigned(MAX, MIN), 0, MAX, 0, MAX, 0, MAX);
        operates(AND, unsigned(10, 20), any(), 0, 31, 0, 20, 0, 20);
        operates(AND, any(), unsigned(10, 20), 0, 31, 0, 20, 0, 20);
    }

    private static void or() {
        operates(OR, any(), exact(MOST), knownExact(MOST));
        operates(OR, exact(MOST), any(), knownExact(MOST));
        operates(OR, any(), exact(0), knownAny());
        operates(OR, exact(0), exact(0), knownExact(0));
        operates(OR, exact(1), bits(12, 2), 13, 2, 13, 15, 13, 15);
        operates(OR, bits(12, 3), exact(1), 13, 2, 13, 15, 13, 15);
        operates(OR, bits(8, 4), bits(4, 8), knownExact(12));
        operates(OR, any(), exact(MIN), MIN, MAX, MIN, MOST, MIN, -1);
        operates(OR, unsigned(5, MIN), unsigned(6, MIN + 1), 0, MOST, 6, MOST, MIN, MAX);
        operates(OR, unsigned(6, MIN + 1), unsigned(5, MIN), 0, MOST, 6, MOST, MIN, MAX);
        operates(OR, unsigned(3, MIN), unsigned(MAX, MIN), 0, MOST, MAX, MOST, MIN, MAX);
        operates(OR, unsigned(3, MOST), unsigned(MIN + 5, MOST), MIN, MAX, MIN + 5, MOST, MIN + 5, -1);
    }

    private static void xor() {
        operates(XOR, exact(MOST), exact(MOST), knownExact(0));
        operates(XOR, exact(MOST), exact(0), knownExact(MOST));
        operates(XOR, any(), exact(MOST), knownAny());
        operates(XOR, bits(12, 3), exact(7), 8, 3, 8, 11, 8, 11);
        operates(XOR, exact(7), bits(12, 3), 8, 3, 8, 11, 8, 11);
        operates(XOR, bits(12, 3), bits(12, 3), 0, 3, 0, 3, 0, 3);
        operates(XOR, bits(8, 4), bits(4, 8), 0, 12, 0, 12, 0, 12);
        operates(XOR, exact(MIN), bits(0, MAX), MIN, MAX, MIN, MOST, MIN, -1);
        operates(XOR, unsigned(5, 6), unsigned(5, 6), 0, 3, 0, 3, 0, 3);
    }

    // ---- LEFT, RIGHT, RIGHT SIGNED

    private static void shiftByOther() {
        for (int operation : new int[] {LEFT, RIGHT, RIGHT_SIGNED}) {
            operates(operation, exact(8), unsigned(0, 1), knownAny());
            operates(operation, exact(8), any(), knownAny());
            operates(operation, exact(0), any(), knownAny());
            operates(operation, exact(8), sevenAlone(), knownAny());
            // Its lowest 6 bits are known, but not all of it.
            operates(operation, exact(8), bits(2, 64), knownAny());
            operates(operation, exact(8), bits(0, MIN), knownAny());
            narrow(operation, exact(8), bits(2, 32), knownAnyNarrow());
        }
    }

    private static void shiftByNoneAndMost() {
        for (long none : new long[] {0, 64, 128, TWO_32, MIN, -64}) {
            operates(LEFT, bits(12, 3), exact(none), 12, 3, 12, 15, 12, 15);
            operates(RIGHT, bits(12, 3), exact(none), 12, 3, 12, 15, 12, 15);
            operates(RIGHT_SIGNED, bits(12, 3), exact(none), 12, 3, 12, 15, 12, 15);
            operates(LEFT, exact(MOST), exact(none), knownExact(MOST));
            operates(RIGHT, exact(MOST), exact(none), knownExact(MOST));
            operates(RIGHT_SIGNED, exact(MIN), exact(none), knownExact(MIN));
        }
        for (long most : new long[] {63, 127, MAX, MOST}) {
            operates(LEFT, exact(3), exact(most), knownExact(MIN));
            operates(LEFT, exact(2), exact(most), knownExact(0));
            operates(LEFT, bits(1, 2), exact(most), knownExact(MIN));
            operates(LEFT, bits(0, 1), exact(most), 0, MIN, 0, MIN, MIN, MAX);
            operates(RIGHT, exact(MOST), exact(most), knownExact(1));
            operates(RIGHT, exact(MAX), exact(most), knownExact(0));
            operates(RIGHT, any(), exact(most), 0, 1, 0, 1, 0, 1);
            operates(RIGHT_SIGNED, exact(MIN), exact(most), knownExact(-1));
            operates(RIGHT_SIGNED, exact(MAX), exact(most), knownExact(0));
            operates(RIGHT_SIGNED, any(), exact(most), 0, MOST, 0, MOST, -1, 0);
        }
        for (long one : new long[] {1, 65, MIN + 1, -63}) {
            operates(LEFT, bits(12, 3), exact(one), 24, 6, 24, 30, 24, 30);
            operates(RIGHT, bits(24, 6), exact(one), 12, 3, 12, 15, 12, 15);
            operates(RIGHT_SIGNED, bits(24, 6), exact(one), 12, 3, 12, 15, 12, 15);
        }
        operates(LEFT, exact(1), exact(32), knownExact(TWO_32));
        operates(RIGHT, exact(TWO_32), exact(32), knownExact(1));
        operates(RIGHT_SIGNED, exact(TWO_32), exact(32), knownExact(1));
    }

    private static void zerosComeIn() {
        operates(RIGHT, exact(MOST), exact(1), knownExact(MAX));
        operates(RIGHT, bits(MIN, 1), exact(1), knownExact(TWO_62));
        operates(RIGHT, bits(0, MIN), exact(1), 0, TWO_62, 0, TWO_62, 0, TWO_62);
        operates(RIGHT, any(), exact(1), 0, MAX, 0, MAX, 0, MAX);
        operates(RIGHT, signed(-20, -9), exact(62), knownExact(3));
    }

    private static void bothAsSigned() {
        operates(RIGHT_SIGNED, bits(MIN, MAX), exact(63), knownExact(-1));
        operates(RIGHT_SIGNED, bits(MIN, 1), exact(1), knownExact(MIN >> 1));
        operates(RIGHT_SIGNED, bits(0, MIN), exact(63), 0, MOST, 0, MOST, -1, 0);
        operates(RIGHT_SIGNED, bits(2, MIN), exact(1), 1, MIN | TWO_62, 1, (MIN | TWO_62) + 1, MIN >> 1, MAX >> 1);
        operates(RIGHT_SIGNED, bits(0, MAX), exact(62), 0, 1, 0, 1, 0, 1);
    }

    private static void boundsToTheLeft() {
        operates(LEFT, unsigned(5, MIN), exact(0), 0, MOST, 5, MIN, MIN, MAX);
        operates(LEFT, unsigned(5, MOST), exact(0), 0, MOST, 5, MOST, MIN, MAX);
        operates(LEFT, unsigned(1, MAX), exact(1), 0, -2, 2, -2, MIN, MAX);
        operates(LEFT, unsigned(1, MIN), exact(1), 0, -2, 0, -2, MIN, MAX);
        operates(LEFT, unsigned(1, TWO_62), exact(1), 0, -2, 2, MIN, MIN, MAX);
        operates(LEFT, unsigned(1, TWO_62), exact(2), 0, -4, 0, -4, MIN, MAX);
        operates(LEFT, unsigned(0, 1), exact(63), 0, MIN, 0, MIN, MIN, MAX);
        operates(LEFT, unsigned(1, 2), exact(63), 0, MIN, 0, MIN, MIN, MAX);
        operates(LEFT, unsigned(1, 3), exact(62), 0, MIN | TWO_62, TWO_62, MIN | TWO_62, MIN, MAX);
        operates(LEFT, unsigned(3, 4), exact(62), 0, MIN | TWO_62, 0, MIN | TWO_62, MIN, MAX);
    }

    private static void boundsToTheRight() {
        operates(RIGHT, unsigned(5, MIN), exact(0), 0, MOST, 5, MIN, MIN, MAX);
        operates(RIGHT, unsigned(MAX, MIN), exact(63), 0, 1, 0, 1, 0, 1);
        operates(RIGHT, unsigned(MIN, MOST), exact(63), knownExact(1));
        operates(RIGHT, unsigned(0, MAX), exact(63), knownExact(0));
        operates(RIGHT, unsigned(MAX, MIN), exact(1), 0, MAX, TWO_62 - 1, TWO_62, TWO_62 - 1, TWO_62);
        operates(RIGHT, unsigned(10, 20), exact(1), 0, 15, 5, 10, 5, 10);
    }

    private static void signedBoundsToTheRight() {
        operates(RIGHT_SIGNED, signed(-1, 1), exact(0), 0, MOST, 0, MOST, -1, 1);
        operates(RIGHT_SIGNED, signed(-1, 1), exact(63), 0, MOST, 0, MOST, -1, 0);
        operates(RIGHT_SIGNED, signed(MIN, MAX), exact(1), 0, MOST, 0, MOST, MIN >> 1, MAX >> 1);
        operates(RIGHT_SIGNED, signed(MIN, -1), exact(63), knownExact(-1));
        operates(RIGHT_SIGNED, signed(0, MAX), exact(63), knownExact(0));
        operates(RIGHT_SIGNED, signed(-5, 9), exact(2), 0, MOST, 0, MOST, -2, 2);
        operates(RIGHT_SIGNED, signed(-20, -9), exact(1), -16, 15, -10, -5, -10, -5);
    }

    // ---- MOVE, SWAP, CUT

    private static void move() {
        operates(MOVE, any(), exact(MIN), knownExact(MIN));
        operates(MOVE, exact(MOST), exact(0), knownExact(0));
        operates(MOVE, exact(3), any(), knownAny());
        operates(MOVE, exact(3), unsigned(MAX, MIN), 0, MOST, MAX, MIN, MIN, MAX);
        operates(MOVE, exact(3), signed(-1, 0), 0, MOST, 0, MOST, -1, 0);
        operates(MOVE, exact(3), hollow(), 2, 9, 4, 9, 4, 9);
        operates(MOVE, hollow(), exact(3), knownExact(3));
    }

    private static void swapOfNoSuchCount() {
        Setting x = exact(0x0102030405060708L);
        operates(SWAP, x, exact(2), knownExact(0x0807L));
        operates(SWAP, x, exact(4), knownExact(0x08070605L));
        operates(SWAP, x, exact(8), knownExact(0x0807060504030201L));
        for (long other : new long[] {0, 1, 3, 5, 6, 7, 9, 16, -2, MOST, TWO_32 + 2, MIN + 4, 256 + 2}) {
            operates(SWAP, x, exact(other), knownExact(0x0807060504030201L));
        }
        operates(SWAP, x, any(), knownExact(0x0807060504030201L));
        operates(SWAP, x, bits(2, 4), knownExact(0x0807060504030201L));
        operates(SWAP, x, bits(4, 1), knownExact(0x0807060504030201L));
        operates(SWAP, x, unsigned(2, 3), knownExact(0x0807060504030201L));
        operates(SWAP, x, unsigned(2, 2), knownExact(0x0807L));
        narrow(SWAP, x, exact(TWO_32 + 2), knownExact(0x0807L));
        narrow(SWAP, x, exact(MIN + 4), knownExact(0x08070605L));
        narrow(SWAP, x, exact(3), knownExact(0));
    }

    private static void swapOfExact() {
        operates(SWAP, exact(MOST), exact(2), knownExact(65535));
        operates(SWAP, exact(MOST), exact(4), knownExact(LOW));
        operates(SWAP, exact(MOST), exact(8), knownExact(MOST));
        operates(SWAP, exact(0), exact(8), knownExact(0));
        operates(SWAP, exact(0x80), exact(2), knownExact(0x8000));
        operates(SWAP, exact(0x80), exact(4), knownExact(TWO_31));
        operates(SWAP, exact(0x80), exact(8), knownExact(MIN));
        operates(SWAP, exact(MIN), exact(8), knownExact(0x80));
        operates(SWAP, exact(MIN), exact(4), knownExact(0));
        operates(SWAP, exact(TWO_32), exact(4), knownExact(0));
        operates(SWAP, exact(65536), exact(2), knownExact(0));
        operates(SWAP, exact(0xF1F2F3F4F5F6F7F8L), exact(4), knownExact(0xF8F7F6F5L));
    }

    private static void swapOfOther() {
        for (Setting x : new Setting[] {any(), unsigned(0, 1), bits(0x1200, 1), unsigned(MAX, MIN), sevenAlone()}) {
            operates(SWAP, x, exact(2), 0, 65535, 0, 65535, 0, 65535);
            operates(SWAP, x, exact(4), 0, LOW, 0, LOW, 0, LOW);
            operates(SWAP, x, exact(8), knownAny());
            operates(SWAP, x, exact(3), knownAny());
            operates(SWAP, x, any(), knownAny());
        }
    }

    private static void cutToEight() {
        for (Setting eight : new Setting[] {exact(8), exact(0), exact(1), exact(3), exact(16), exact(MOST),
            exact(TWO_32 + 2), any(), unsigned(2, 3), bits(4, 1)}) {
            operates(CUT, exact(MOST), eight, knownExact(MOST));
            operates(CUT, any(), eight, knownAny());
            operates(CUT, signed(-1, 1), eight, 0, MOST, 0, MOST, -1, 1);
            operates(CUT, unsigned(3, LOW + 1), eight, 0, 2 * TWO_32 - 1, 3, LOW + 1, 3, LOW + 1);
        }
        operates(CUT, hollow(), exact(8), 2, 9, 4, 9, 4, 9);
        narrow(CUT, exact(0x12345678L), exact(TWO_32 + 2), knownExact(0x5678L));
    }

    private static void cutToFewer() {
        operates(CUT, any(), exact(2), 0, 65535, 0, 65535, 0, 65535);
        operates(CUT, any(), exact(4), 0, LOW, 0, LOW, 0, LOW);
        operates(CUT, exact(MOST), exact(2), knownExact(65535));
        operates(CUT, exact(MOST), exact(4), knownExact(LOW));
        operates(CUT, exact(65536), exact(2), knownExact(0));
        operates(CUT, exact(TWO_32), exact(4), knownExact(0));
        operates(CUT, unsigned(3, 65536), exact(2), 0, 65535, 0, 65535, 0, 65535);
        operates(CUT, unsigned(3, LOW + 1), exact(4), 0, LOW, 0, LOW, 0, LOW);
        operates(CUT, bits(65536 | 12, 3), exact(2), 12, 3, 12, 15, 12, 15);
        operates(CUT, bits(TWO_32 | 12, 3), exact(4), 12, 3, 12, 15, 12, 15);
        // AND tells nothing of the least.
        operates(CUT, unsigned(65536 + 5, 65536 + 6), exact(2), 4, 3, 4, 7, 4, 7);
    }

    private static void cutThatTakesNothing() {
        operates(CUT, unsigned(3, 65535), exact(2), 0, 65535, 3, 65535, 3, 65535);
        operates(CUT, unsigned(3, LOW), exact(4), 0, LOW, 3, LOW, 3, LOW);
        operates(CUT, exact(0), exact(2), knownExact(0));
        operates(CUT, unsigned(10, 20), exact(2), 0, 31, 10, 20, 10, 20);
        operates(CUT, hollow(), exact(2), 2, 9, 4, 9, 4, 9);
        operates(CUT, hollow(), exact(4), 2, 9, 4, 9, 4, 9);
    }

    // ---- NARROW

    private static void narrowedFirst() {
        narrow(DIVIDE, exact(TWO_32 + 10), exact(5), knownExact(2));
        narrow(DIVIDE, exact(10), exact(2 * TWO_32 + 5), knownExact(2));
        narrow(DIVIDE, exact(9), exact(TWO_32), knownExact(0));
        narrow(REST, exact(9), exact(TWO_32), knownExact(9));
        narrow(REST, exact(9), exact(TWO_32 + 4), 0, 3, 0, 3, 0, 3);
        narrow(REST, exact(TWO_32 + 3), exact(4), knownExact(3));
        narrow(RIGHT, exact(MOST), exact(4), knownExact(0x0FFFFFFFL));
        narrow(RIGHT, exact(TWO_32), exact(1), knownExact(0));
        narrow(LEFT, exact(3), bits(2, TWO_32), knownExact(12));
        narrow(SWAP, exact(0x0102030405060708L), exact(8), knownExact(0));
        narrow(MULTIPLY, unsigned(TWO_32 + 2, TWO_32 + 3), unsigned(TWO_32 + 4, TWO_32 + 5), 8, 7, 8, 15, 8, 15);
        narrow(ADD, unsigned(TWO_32, TWO_32 + 3), exact(4), 4, 3, 4, 7, 4, 7);
        narrow(SUBTRACT, unsigned(TWO_32 + 5, TWO_32 + 6), exact(5), 0, 1, 0, 1, 0, 1);
        narrow(MOVE, any(), exact(MOST), knownExact(LOW));
    }

    private static void resultIsNarrowed() {
        narrow(ADD, exact(LOW), exact(1), knownExact(0));
        narrow(ADD, exact(LOW), exact(LOW), knownExact(LOW - 1));
        narrow(ADD, unsigned(1, 5), exact(LOW), 0, 7, 0, 4, 0, 4);
        narrow(ADD, unsigned(0, 1), exact(LOW), knownAnyNarrow());
        narrow(SUBTRACT, exact(0), exact(1), knownExact(LOW));
        narrow(SUBTRACT, unsigned(1, 5), unsigned(2, 3), knownAnyNarrow());
        narrow(MULTIPLY, exact(LOW), exact(LOW), knownExact(1));
        narrow(MULTIPLY, exact(TWO_31), exact(2), knownExact(0));
        narrow(NEGATE, exact(1), any(), knownExact(LOW));
        narrow(NEGATE, exact(TWO_31), any(), knownExact(TWO_31));
        narrow(NEGATE, exact(TWO_32), any(), knownExact(0));
        narrow(LEFT, exact(LOW), exact(1), knownExact(LOW - 1));
        narrow(XOR, any(), any(), knownAnyNarrow());
        narrow(SWAP, any(), exact(8), knownAnyNarrow());
        narrow(OR, unsigned(5, 6), unsigned(9, 12), 12, 3, 12, 15, 12, 15);
        narrow(DIVIDE, any(), any(), knownAnyNarrow());
    }

    private static void narrowShifts() {
        for (long none : new long[] {0, 32, 64, TWO_32, MIN, -32}) {
            narrow(LEFT, bits(12, 3), exact(none), 12, 3, 12, 15, 12, 15);
            narrow(RIGHT, bits(12, 3), exact(none), 12, 3, 12, 15, 12, 15);
            narrow(RIGHT_SIGNED, bits(12, 3), exact(none), 12, 3, 12, 15, 12, 15);
            narrow(LEFT, exact(MOST), exact(none), knownExact(LOW));
            narrow(RIGHT, exact(MOST), exact(none), knownExact(LOW));
        }
        for (long most : new long[] {31, 63, MAX, MOST}) {
            narrow(LEFT, exact(1), exact(most), knownExact(TWO_31));
            narrow(LEFT, exact(3), exact(most), knownExact(TWO_31));
            narrow(LEFT, exact(2), exact(most), knownExact(0));
            narrow(LEFT, exact(LOW), exact(most), knownExact(TWO_31));
            narrow(LEFT, unsigned(1, 2), exact(most), 0, TWO_31, 0, TWO_31, 0, TWO_31);
            narrow(RIGHT, exact(LOW), exact(most), knownExact(1));
            narrow(RIGHT, exact(TWO_31 - 1), exact(most), knownExact(0));
            narrow(RIGHT_SIGNED, exact(TWO_31 - 1), exact(most), knownExact(0));
        }
        for (long one : new long[] {1, 33, 65, -31}) {
            narrow(LEFT, bits(12, 3), exact(one), 24, 6, 24, 30, 24, 30);
            narrow(RIGHT, bits(24, 6), exact(one), 12, 3, 12, 15, 12, 15);
            narrow(RIGHT_SIGNED, bits(24, 6), exact(one), 12, 3, 12, 15, 12, 15);
        }
    }

    private static void narrowRightSigned() {
        narrow(RIGHT_SIGNED, exact(TWO_31 - 1), exact(4), knownExact(0x07FFFFFFL));
        narrow(RIGHT_SIGNED, exact(TWO_31 - 1), exact(0), knownExact(TWO_31 - 1));
        narrow(RIGHT_SIGNED, exact(TWO_31), exact(4), knownAnyNarrow());
        narrow(RIGHT_SIGNED, exact(TWO_31), exact(0), knownAnyNarrow());
        narrow(RIGHT_SIGNED, exact(LOW), exact(31), knownAnyNarrow());
        narrow(RIGHT_SIGNED, unsigned(16, TWO_31 - 1), exact(4), 0, 0x07FFFFFFL, 1, 0x07FFFFFFL, 1, 0x07FFFFFFL);
        narrow(RIGHT_SIGNED, unsigned(16, TWO_31), exact(4), knownAnyNarrow());
        // It is the narrowed x that counts.
        narrow(RIGHT_SIGNED, exact(TWO_32 + 16), exact(2), knownExact(4));
        narrow(RIGHT_SIGNED, exact(MIN + 8), exact(1), knownExact(4));
        narrow(RIGHT_SIGNED, exact(TWO_32 + TWO_31), exact(1), knownAnyNarrow());
        narrow(RIGHT_SIGNED, exact(MOST), exact(1), knownAnyNarrow());
        narrow(RIGHT_SIGNED, any(), exact(1), knownAnyNarrow());
        narrow(RIGHT_SIGNED, exact(16), unsigned(1, 2), knownAnyNarrow());
    }

    private static void narrowAlready() {
        narrow(MOVE, any(), unsigned(3, LOW), 0, LOW, 3, LOW, 3, LOW);
        narrow(MOVE, any(), exact(LOW), knownExact(LOW));
        narrow(MOVE, any(), exact(0), knownExact(0));
        narrow(MOVE, any(), bits(LOW - 3, 3), LOW - 3, 3, LOW - 3, LOW, LOW - 3, LOW);
        narrow(MOVE, any(), hollow(), 2, 9, 4, 9, 4, 9);
        narrow(MOVE, any(), both(bits(1, -2), unsigned(2, LOW)), 1, LOW - 1, 2, LOW, 2, LOW);
        // One more, and it is cut.
        narrow(MOVE, any(), unsigned(3, LOW + 1), knownAnyNarrow());
        narrow(MOVE, any(), exact(LOW + 1), knownExact(0));
    }

    private static void narrowBits() {
        narrow(MOVE, any(), bits(1L << 40 | 5, 1L << 35 | 2), 5, 2, 5, 7, 5, 7);
        narrow(MOVE, any(), bits(MIN | TWO_31, TWO_32 | 1), TWO_31, 1, TWO_31, TWO_31 + 1, TWO_31, TWO_31 + 1);
        narrow(MOVE, any(), bits(1, -2), 1, LOW - 1, 1, LOW, 1, LOW);
        narrow(MOVE, any(), bits(0, -2), 0, LOW - 1, 0, LOW - 1, 0, LOW - 1);
        narrow(MOVE, any(), bits(5, -TWO_32), knownExact(5));
        narrow(MOVE, any(), bits(MOST, TWO_31), TWO_31 - 1, TWO_31, TWO_31 - 1, LOW, TWO_31 - 1, LOW);
        narrow(MOVE, any(), exact(MIN), knownExact(0));
        narrow(MOVE, any(), exact(MOST), knownExact(LOW));
    }

    private static void narrowBoundsOfSameHighBits() {
        narrow(MOVE, any(), unsigned(TWO_32 + 3, TWO_32 + 9), 0, 15, 3, 9, 3, 9);
        narrow(MOVE, any(), unsigned(TWO_32, TWO_32 + LOW), knownAnyNarrow());
        narrow(MOVE, any(), unsigned(TWO_32 + 5, TWO_32 + LOW), 0, LOW, 5, LOW, 5, LOW);
        narrow(MOVE, any(), unsigned(TWO_32, TWO_32 + LOW - 1), 0, LOW, 0, LOW - 1, 0, LOW - 1);
        narrow(MOVE, any(), unsigned(MOST - 4, MOST), LOW - 7, 7, LOW - 4, LOW, LOW - 4, LOW);
        narrow(MOVE, any(), unsigned(MIN + 3, MIN + 9), 0, 15, 3, 9, 3, 9);
        narrow(MOVE, any(), unsigned(TWO_32 + TWO_31 - 1, TWO_32 + TWO_31), 0, LOW, TWO_31 - 1, TWO_31, TWO_31 - 1, TWO_31);
    }

    private static void narrowBoundsOfOtherHighBits() {
        narrow(MOVE, any(), unsigned(LOW, LOW + 1), knownAnyNarrow());
        narrow(MOVE, any(), unsigned(5, TWO_32 + 9), knownAnyNarrow());
        narrow(MOVE, any(), unsigned(TWO_32 + 5, 2 * TWO_32 + 9), knownAnyNarrow());
        narrow(MOVE, any(), unsigned(TWO_32 + LOW, 2 * TWO_32), knownAnyNarrow());
        narrow(MOVE, any(), unsigned(5, MOST - 9), knownAnyNarrow());
        narrow(MOVE, any(), unsigned(MAX, MIN), knownAnyNarrow());
        narrow(MOVE, any(), unsigned(TWO_32 + 5, 3 * TWO_32 + 9), knownAnyNarrow());
    }

    private static void narrowSignedBounds() {
        narrow(MOVE, any(), signed(-5, -1), LOW - 7, 7, LOW - 4, LOW, LOW - 4, LOW);
        narrow(MOVE, any(), signed(-5, 2), knownAnyNarrow());
        narrow(MOVE, any(), signed(MIN, MAX), knownAnyNarrow());
        narrow(MOVE, any(), signed(MIN, MIN + 1), 0, 1, 0, 1, 0, 1);
        narrow(MOVE, any(), signed(MAX - 1, MAX), LOW - 1, 1, LOW - 1, LOW, LOW - 1, LOW);
        // What is known of the bits comes to the bounds, of x and y and of the result.
        narrow(DIVIDE, bits(5, -TWO_32), exact(1), knownExact(5));
        narrow(DIVIDE, exact(10), bits(5, -TWO_32), knownExact(2));
        narrow(LEFT, unsigned(1, 2), exact(31), 0, TWO_31, 0, TWO_31, 0, TWO_31);
    }

    /** What is settled stays so as it is narrowed, even where no long agrees: EMPTY doesn't come up. */
    private static void narrowOfHollowOnes() {
        narrow(MOVE, any(), both(bits(TWO_32 + 2, 9), unsigned(TWO_32 + 4, TWO_32 + 9)), 2, 9, 4, 9, 4, 9);
        narrow(MOVE, any(), both(bits(MIN + 2, 9), unsigned(MIN + 4, MIN + 9)), 2, 9, 4, 9, 4, 9);
        narrow(MOVE, any(), both(unsigned(5, MIN), signed(-10, 3)), knownAnyNarrow());
        narrow(MOVE, any(), both(bits(2 * TWO_32, 9 * TWO_32), unsigned(4 * TWO_32, 9 * TWO_32)), knownExact(0));
        narrow(SUBTRACT, hollow(), exact(4), knownAnyNarrow());
    }
}
