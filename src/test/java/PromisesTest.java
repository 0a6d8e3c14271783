/** Each promise by hand: ordinary inputs, the edges that the document names, and wrong inputs. */
public final class PromisesTest extends ByHand {

    private static final long[] EDGES = {0, 1, -1, 2, LOW, TWO_31, TWO_32, MIN, MAX, MIN + 1, MAX - 1};

    public static void main(String[] args) {
        promise1();
        promise2And3();
        promise4();
        promise5();
        promise6Sums();
        promise6Products();
        promise6Bits();
        promise6Shifts();
        promise6Rest();
        promise6Narrow();
        promise6Empty();
        promise6Arguments();
        promise7Settles();
        promise7Unsigned();
        promise7Signed();
        promise7Same();
        promise7Meet();
        promise7Narrow();
        promise7NarrowLimits();
        promise7Arguments();
        promise8();
        promise9();
        promise10();
        CHECK.end();
    }

    private static void promise1() {
        RangeDesk desk = new RangeDesk();
        for (int i = 0; i < Check.NUMBERS; i++) {
            CHECK.exact("a new object", desk, i, 0);
        }
        CHECK.throwsIndex("a new object's number 16", () -> desk.look(16, 0));
        desk.any(7);
        CHECK.exact("number 6 beside 7", desk, 6, 0);
        CHECK.exact("number 8 beside 7", desk, 8, 0);
        CHECK.exact("another object", new RangeDesk(), 7, 0);
        CHECK.any("any of 7", desk, 7);
    }

    private static void promise2And3() {
        RangeDesk desk = new RangeDesk();
        for (long c : EDGES) {
            CHECK.due("any(15)", desk.any(15), true);
            CHECK.any("any", desk, 15);
            CHECK.due("exact(15, " + c + ")", desk.exact(15, c), true);
            CHECK.exact("exact", desk, 15, c);
        }
        CHECK.due("exact(0, 5)", desk.exact(0, 5), true);
        CHECK.exact("exact", desk, 0, 5);
        CHECK.due("any(0)", desk.any(0), true);
        CHECK.any("any", desk, 0);
        desk.exact(0, 5);
        for (int i : Check.WRONG_NUMBERS) {
            CHECK.due("exact of " + i, desk.exact(i, 3), false);
            CHECK.due("any of " + i, desk.any(i), false);
        }
        CHECK.exact("after wrong numbers", desk, 0, 5);
        CHECK.exact("after wrong numbers", desk, 15, MAX - 1);
    }

    private static void promise4() {
        isSet(bits(12, 3), 12, 3, 12, 15, 12, 15);
        isSet(bits(15, 3), 12, 3, 12, 15, 12, 15);
        isSet(bits(5, 0), knownExact(5));
        isSet(bits(-1, 0), knownExact(-1));
        isSet(bits(77, MOST), knownAny());
        isSet(bits(0, MIN), 0, MIN, 0, MIN, MIN, MAX);
        isSet(bits(MIN, 1), MIN, 1, MIN, MIN + 1, MIN, MIN + 1);
        isSet(bits(1, -2), 1, -2, 1, MOST, MIN, MAX);
        isSet(bits(0, MAX), 0, MAX, 0, MAX, 0, MAX);
        isSet(bits(0, 9), 0, 9, 0, 9, 0, 9);
        RangeDesk desk = new RangeDesk();
        for (int i : Check.WRONG_NUMBERS) {
            CHECK.due("bits of " + i, desk.bits(i, 1, 2), false);
        }
        CHECK.exact("after wrong numbers", desk, 0, 0);
    }

    private static void promise5() {
        isSet(unsigned(10, 20), 0, 31, 10, 20, 10, 20);
        isSet(unsigned(8, 11), 8, 3, 8, 11, 8, 11);
        isSet(unsigned(7, 7), knownExact(7));
        isSet(unsigned(MOST, MOST), knownExact(-1));
        isSet(unsigned(0, MOST), knownAny());
        isSet(unsigned(5, MIN), 0, MOST, 5, MIN, MIN, MAX);
        isSet(unsigned(4, MOST), 0, MOST, 4, MOST, MIN, MAX);
        isSet(unsigned(MIN, MIN + 1), MIN, 1, MIN, MIN + 1, MIN, MIN + 1);
        isSet(signed(-5, -1), -8, 7, -5, -1, -5, -1);
        isSet(signed(-1, 1), 0, MOST, 0, MOST, -1, 1);
        isSet(signed(3, 6), 0, 7, 3, 6, 3, 6);
        isSet(signed(MIN, MIN), knownExact(MIN));
        isSet(signed(MIN, MAX), knownAny());
        isSet(signed(0, MAX), 0, MAX, 0, MAX, 0, MAX);
        isSet(signed(MIN, -1), MIN, MAX, MIN, MOST, MIN, -1);

        RangeDesk desk = new RangeDesk();
        desk.exact(0, 9);
        CHECK.due("bounds 5, 4 signed", desk.bounds(0, 5, 4, true), false);
        CHECK.due("bounds 5, 4", desk.bounds(0, 5, 4, false), false);
        CHECK.due("bounds -1, 4", desk.bounds(0, -1, 4, false), false);
        CHECK.due("bounds 4, -1 signed", desk.bounds(0, 4, -1, true), false);
        CHECK.due("bounds MIN, MAX", desk.bounds(0, MIN, MAX, false), false);
        CHECK.exact("after crossed bounds", desk, 0, 9);
        for (int i : Check.WRONG_NUMBERS) {
            CHECK.due("bounds of " + i, desk.bounds(i, 1, 2, true), false);
            CHECK.due("bounds of " + i, desk.bounds(i, 1, 2, false), false);
        }
        CHECK.exact("after wrong numbers", desk, 0, 9);
    }

    private static void promise6Sums() {
        operates(0, bits(12, 3), exact(4), 16, 3, 16, 19, 16, 19);
        operates(0, exact(-1), exact(-1), knownExact(-2));
        operates(0, exact(MAX), exact(1), knownExact(MIN));
        operates(0, unsigned(1, 5), unsigned(MOST - 2, MOST), 0, MOST, 0, MOST, -2, 4);
        operates(0, unsigned(MAX - 1, MAX), exact(1), 0, MOST, MAX, MIN, MIN, MAX);
        operates(0, signed(MIN, MIN + 1), exact(-1), 0, MOST, 0, MOST, MIN, MAX);
        operates(0, unsigned(0, MOST - 5), unsigned(1, 5), 0, MOST, 1, MOST, MIN, MAX);
        operates(0, unsigned(0, MOST - 4), unsigned(1, 5), knownAny());
        operates(0, bits(1, -4), exact(2), 3, -4, 3, MOST, MIN, MAX);
        operates(0, signed(-1, 1), exact(0), 0, MOST, 0, MOST, -1, 1);
        operates(0, signed(-3, 2), signed(-4, 9), 0, MOST, 0, MOST, -7, 11);
        operates(0, exact(12), bits(16, 3), 28, 3, 28, 31, 28, 31);
        operates(0, bits(0, 4), bits(0, 4), 0, 12, 0, 8, 0, 8);

        operates(1, unsigned(1, 5), unsigned(2, 3), 0, MOST, 0, MOST, -2, 3);
        operates(1, unsigned(10, 20), unsigned(3, 10), 0, 31, 0, 17, 0, 17);
        operates(1, unsigned(9, 20), unsigned(3, 10), 0, MOST, 0, MOST, -1, 17);
        operates(1, exact(MIN), exact(1), knownExact(MAX));
        operates(1, exact(3), exact(5), knownExact(-2));
        operates(1, signed(MIN, MIN + 1), exact(1), 0, MOST, MAX, MIN, MIN, MAX);
        operates(1, signed(MAX - 1, MAX), exact(-1), 0, MOST, 0, MOST, MIN, MAX);
        operates(1, bits(12, 3), exact(4), 8, 3, 8, 11, 8, 11);
        operates(1, exact(15), bits(0, 3), 12, 3, 12, 15, 12, 15);
        operates(1, signed(-1, 1), exact(0), 0, MOST, 0, MOST, -1, 1);
        operates(1, signed(-3, 2), signed(-4, 9), 0, MOST, 0, MOST, -12, 6);
        operates(1, signed(MIN, 0), signed(0, 1), 0, MOST, 0, MOST, MIN, MAX);
        operates(1, signed(0, MAX), signed(-1, 0), 0, MOST, 0, MOST, MIN, MAX);

        operates(11, exact(305419896), exact(7), knownExact(-305419896));
        operates(11, exact(MIN), any(), knownExact(MIN));
        operates(11, exact(0), any(), knownExact(0));
        operates(11, unsigned(1, 5), exact(0), -8, 7, -5, -1, -5, -1);
        operates(11, any(), exact(0), knownAny());
        operates(11, signed(MIN + 1, MAX), exact(0), 0, MOST, 0, MOST, -MAX, MAX);
    }

    private static void promise6Products() {
        operates(2, exact(-3), exact(5), knownExact(-15));
        operates(2, exact(MIN), exact(2), knownExact(0));
        operates(2, unsigned(10, 20), exact(4), 0, 124, 40, 80, 40, 80);
        operates(2, unsigned(2, 3), unsigned(4, 5), 8, 7, 8, 15, 8, 15);
        operates(2, bits(0, -4), bits(0, -8), 0, -32, 0, -32, MIN, MAX);
        operates(2, exact(0), any(), knownExact(0));
        operates(2, any(), exact(0), knownExact(0));
        operates(2, exact(MIN), bits(0, -2), knownExact(0));
        operates(2, exact(MIN), bits(0, -4), knownExact(0));
        operates(2, exact(MIN), any(), 0, MIN, 0, MIN, MIN, MAX);
        operates(2, unsigned(0, LOW), unsigned(0, LOW), 0, MOST, 0, LOW * LOW, MIN, MAX);
        operates(2, unsigned(0, LOW + 1), unsigned(0, 1), knownAny());
        operates(2, unsigned(0, 1), unsigned(0, LOW + 1), knownAny());

        operates(3, unsigned(10, 20), exact(3), 0, 7, 3, 6, 3, 6);
        operates(3, unsigned(1, 5), unsigned(2, 3), 0, 7, 0, 5, 0, 5);
        operates(3, unsigned(1, 5), unsigned(0, 3), 0, 7, 0, 5, 0, 5);
        operates(3, unsigned(10, 20), exact(0), knownExact(0));
        operates(3, any(), exact(0), knownExact(0));
        operates(3, any(), exact(2), 0, MAX, 0, MAX, 0, MAX);
        operates(3, any(), exact(-1), 0, 1, 0, 1, 0, 1);
        operates(3, any(), exact(MIN), 0, 1, 0, 1, 0, 1);
        operates(3, exact(-2), exact(-1), knownExact(0));
        operates(3, exact(-1), exact(10), knownExact(1844674407370955161L));
        operates(3, exact(-1), exact(1), knownExact(-1));
        operates(3, any(), any(), knownAny());

        operates(4, unsigned(10, 20), exact(0), 0, 31, 10, 20, 10, 20);
        operates(4, bits(12, 3), exact(0), 12, 3, 12, 15, 12, 15);
        operates(4, signed(-1, 1), exact(0), 0, MOST, 0, MOST, -1, 1);
        operates(4, unsigned(1, 5), exact(6), 0, 7, 1, 5, 1, 5);
        operates(4, unsigned(1, 5), exact(5), 0, 7, 0, 4, 0, 4);
        operates(4, exact(7), exact(4), 0, 3, 0, 3, 0, 3);
        operates(4, exact(7), exact(-1), knownExact(7));
        operates(4, exact(7), exact(1), knownExact(0));
        operates(4, any(), exact(-1), 0, MOST, 0, MOST - 1, MIN, MAX);
        operates(4, bits(12, 3), unsigned(1, 2), 0, 15, 0, 15, 0, 15);
    }

    private static void promise6Bits() {
        operates(5, bits(12, 3), bits(10, 5), 8, 7, 8, 15, 8, 15);
        operates(5, signed(-5, -1), unsigned(10, 20), 0, 31, 0, 20, 0, 20);
        operates(5, any(), exact(-4), 0, -4, 0, -4, MIN, MAX);
        operates(5, exact(12), exact(10), knownExact(8));
        operates(5, unsigned(10, 20), any(), 0, 31, 0, 20, 0, 20);
        operates(6, exact(1), bits(12, 2), 13, 2, 13, 15, 13, 15);
        operates(7, exact(5), bits(12, 3), 8, 3, 8, 11, 8, 11);
        operates(6, bits(12, 3), exact(1), 13, 2, 13, 15, 13, 15);
        operates(6, unsigned(10, 20), unsigned(3, 4), 0, 31, 10, 31, 10, 31);
        operates(6, any(), unsigned(3, 4), 0, MOST, 3, MOST, MIN, MAX);
        operates(6, any(), exact(MIN), MIN, MAX, MIN, MOST, MIN, -1);
        operates(6, exact(12), exact(10), knownExact(14));
        operates(7, bits(12, 3), exact(5), 8, 3, 8, 11, 8, 11);
        operates(7, bits(12, 3), bits(12, 3), 0, 3, 0, 3, 0, 3);
        operates(7, any(), exact(5), knownAny());
        operates(7, exact(12), exact(10), knownExact(6));
    }

    private static void promise6Shifts() {
        operates(8, unsigned(1, 5), exact(2), 0, 28, 4, 20, 4, 20);
        operates(8, unsigned(1, 5), exact(66), 0, 28, 4, 20, 4, 20);
        operates(8, unsigned(1, 5), exact(-62), 0, 28, 4, 20, 4, 20);
        operates(8, unsigned(1, 5), exact(64), 0, 7, 1, 5, 1, 5);
        operates(8, signed(-1, 1), exact(0), knownAny());
        operates(8, unsigned(1, 5), unsigned(1, 2), knownAny());
        operates(8, unsigned(1, 1L << 62), exact(1), 0, -2, 2, MIN, MIN, MAX);
        operates(8, unsigned(1, 1L << 62), exact(2), 0, -4, 0, -4, MIN, MAX);
        operates(8, unsigned(0, 1), exact(63), 0, MIN, 0, MIN, MIN, MAX);
        operates(8, exact(3), exact(63), knownExact(MIN));
        operates(8, exact(1), exact(33), knownExact(TWO_32 * 2));

        operates(9, bits(16, 5), exact(1), 8, 2, 8, 10, 8, 10);
        operates(9, any(), exact(2), 0, MOST >>> 2, 0, MOST >>> 2, 0, MOST >>> 2);
        operates(9, exact(-1), exact(63), knownExact(1));
        operates(9, unsigned(10, 20), exact(1), 0, 15, 5, 10, 5, 10);
        operates(9, unsigned(10, 20), exact(65), 0, 15, 5, 10, 5, 10);
        operates(9, signed(-1, 1), exact(0), knownAny());
        operates(9, exact(8), unsigned(1, 2), knownAny());

        operates(10, exact(-8), exact(1), knownExact(-4));
        operates(10, bits(16, 5), exact(1), 8, 2, 8, 10, 8, 10);
        operates(10, bits(2, MIN), exact(1), 1, MIN | MIN >>> 1, 1, (MIN | MIN >>> 1) + 1, MIN >> 1, MAX >> 1);
        operates(10, exact(MIN), exact(63), knownExact(-1));
        operates(10, any(), exact(63), 0, MOST, 0, MOST, -1, 0);
        operates(10, signed(-2, 3), exact(2), 0, MOST, 0, MOST, -1, 0);
        operates(10, signed(-20, -9), exact(65), -16, 15, -10, -5, -10, -5);
        operates(10, unsigned(5, MIN), exact(0), 0, MOST, 0, MOST, MIN, MAX);
        operates(10, exact(8), unsigned(1, 2), knownAny());
    }

    private static void promise6Rest() {
        operates(12, exact(3), unsigned(10, 20), 0, 31, 10, 20, 10, 20);
        operates(12, any(), exact(4), knownExact(4));
        operates(12, exact(3), signed(-1, 1), 0, MOST, 0, MOST, -1, 1);

        operates(13, exact(0x12345678L), exact(2), knownExact(0x7856L));
        operates(13, exact(0x12345678L), exact(4), knownExact(0x78563412L));
        operates(13, exact(0x12345678L), exact(8), knownExact(0x7856341200000000L));
        operates(13, exact(0x12345678L), exact(5), knownExact(0x7856341200000000L));
        operates(13, exact(0x12345678L), unsigned(2, 3), knownExact(0x7856341200000000L));
        operates(13, exact(0x0102030405060708L), exact(2), knownExact(0x0807L));
        operates(13, exact(0x0102030405060708L), exact(4), knownExact(0x08070605L));
        operates(13, exact(0x0102030405060708L), exact(8), knownExact(0x0807060504030201L));
        operates(13, exact(0xF1F2F3F4F5F6F7F8L), exact(4), knownExact(0xF8F7F6F5L));
        operates(13, unsigned(1, 2), exact(2), 0, 65535, 0, 65535, 0, 65535);
        operates(13, unsigned(1, 2), exact(4), 0, LOW, 0, LOW, 0, LOW);
        operates(13, unsigned(1, 2), exact(8), knownAny());
        operates(13, unsigned(1, 2), exact(1), knownAny());

        operates(14, any(), exact(2), 0, 65535, 0, 65535, 0, 65535);
        operates(14, any(), exact(4), 0, LOW, 0, LOW, 0, LOW);
        operates(14, signed(-1, 1), exact(8), 0, MOST, 0, MOST, -1, 1);
        operates(14, signed(-1, 1), exact(3), 0, MOST, 0, MOST, -1, 1);
        operates(14, signed(-1, 1), unsigned(2, 3), 0, MOST, 0, MOST, -1, 1);
        operates(14, exact(0x12345678L), exact(2), knownExact(0x5678L));
        operates(14, exact(-1), exact(4), knownExact(LOW));
        operates(14, unsigned(10, 20), exact(2), 0, 31, 10, 20, 10, 20);
        operates(14, unsigned(3, 65535), exact(2), 0, 65535, 3, 65535, 3, 65535);
        operates(14, unsigned(3, 65536), exact(2), 0, 65535, 0, 65535, 0, 65535);
        operates(14, unsigned(3, LOW), exact(4), 0, LOW, 3, LOW, 3, LOW);
        operates(14, unsigned(3, LOW + 1), exact(4), 0, LOW, 0, LOW, 0, LOW);
        operates(14, bits(65536 | 12, 3), exact(2), 12, 3, 12, 15, 12, 15);
    }

    private static void promise6Narrow() {
        narrow(12, any(), unsigned(TWO_32 + 3, TWO_32 + 9), 0, 15, 3, 9, 3, 9);
        narrow(12, any(), unsigned(TWO_32 - 1, TWO_32 + 1), knownAnyNarrow());
        narrow(12, any(), unsigned(3, LOW), 0, LOW, 3, LOW, 3, LOW);
        narrow(12, any(), bits((1L << 40) | 5, (1L << 35) | 2), 5, 2, 5, 7, 5, 7);
        narrow(12, any(), signed(-5, -1), LOW - 7, 7, LOW - 4, LOW, LOW - 4, LOW);
        narrow(12, any(), any(), knownAnyNarrow());
        narrow(12, any(), exact(TWO_32), knownExact(0));
        narrow(0, exact(LOW), exact(1), knownExact(0));
        narrow(0, exact(TWO_32 + 3), exact(TWO_32 + 4), knownExact(7));
        narrow(0, unsigned(TWO_32, TWO_32 + 3), exact(4), 4, 3, 4, 7, 4, 7);
        narrow(1, unsigned(1, 5), unsigned(2, 3), knownAnyNarrow());
        narrow(1, exact(TWO_32 + 3), exact(5), knownExact(LOW - 1));
        narrow(2, exact(LOW), exact(LOW), knownExact(1));
        narrow(3, exact(TWO_32 + 10), exact(2 * TWO_32 + 5), knownExact(2));
        narrow(3, exact(9), exact(TWO_32), knownExact(0));
        narrow(4, exact(TWO_32 + 9), exact(TWO_32), knownExact(9));
        narrow(5, signed(-5, -1), unsigned(10, 20), 0, 31, 0, 20, 0, 20);
        narrow(7, exact(-1), exact(1), knownExact(LOW - 1));
        narrow(8, exact(1), exact(33), knownExact(2));
        narrow(8, exact(1), exact(31), knownExact(TWO_31));
        narrow(8, exact(1), exact(32), knownExact(1));
        narrow(8, exact(LOW), exact(1), knownExact(LOW - 1));
        narrow(8, exact(3), bits(2, 1L << 40), knownExact(12));
        narrow(8, exact(3), unsigned(1, 2), knownAnyNarrow());
        narrow(9, exact(-1), exact(4), knownExact(0x0FFFFFFFL));
        narrow(9, exact(-1), exact(36), knownExact(0x0FFFFFFFL));
        narrow(10, exact(0x7FFFFFFFL), exact(4), knownExact(0x07FFFFFFL));
        narrow(10, exact(0x7FFFFFFFL), exact(36), knownExact(0x07FFFFFFL));
        narrow(10, exact(TWO_31), exact(4), knownAnyNarrow());
        narrow(10, unsigned(0, TWO_31), exact(4), knownAnyNarrow());
        narrow(10, exact(TWO_32 + 16), exact(2), knownExact(4));
        narrow(10, exact(16), unsigned(1, 2), knownAnyNarrow());
        narrow(11, exact(1), any(), knownExact(LOW));
        narrow(11, exact(TWO_32), any(), knownExact(0));
        narrow(13, exact(0x0102030405060708L), exact(4), knownExact(0x08070605L));
        narrow(13, exact(0x0102030405060708L), exact(8), knownExact(0));
        narrow(13, exact(0x0102L), bits(2, 1L << 40), knownExact(0x0201L));
        narrow(13, any(), exact(2), 0, 65535, 0, 65535, 0, 65535);
        narrow(14, any(), exact(8), knownAnyNarrow());
        narrow(14, exact(-1), exact(2), knownExact(65535));
    }

    private static void promise6Empty() {
        RangeDesk desk = desk(hollow(), exact(4));
        CHECK.number("the hollow number", desk, X, 2, 9, 4, 9, 4, 9);
        desk.operate(R, 1, X, Y, false);
        CHECK.any("SUBTRACT that is EMPTY", desk, R);
        desk.operate(R, 1, X, Y, true);
        CHECK.number("SUBTRACT narrow that is EMPTY", desk, R, knownAnyNarrow());
        desk.operate(R, 12, Y, X, false);
        CHECK.number("MOVE of a hollow number", desk, R, 2, 9, 4, 9, 4, 9);
    }

    private static void promise6Arguments() {
        RangeDesk desk = desk(exact(21), exact(2));
        CHECK.due("ADD into x of x and x", desk.operate(X, 0, X, X, false), true);
        CHECK.exact("ADD into x of x and x", desk, X, 42);
        CHECK.due("SUBTRACT into y", desk.operate(Y, 1, X, Y, false), true);
        CHECK.exact("SUBTRACT into y", desk, Y, 40);
        CHECK.due("NEGATE into x", desk.operate(X, 11, X, Y, false), true);
        CHECK.exact("NEGATE into x", desk, X, -42);
        CHECK.due("CUT into y of x and y", desk.operate(Y, 14, Y, Y, true), true);
        CHECK.exact("CUT into y of x and y", desk, Y, 40);
        CHECK.due("0 and 15", desk.operate(0, 12, 0, 15, false), true);
        for (int i : Check.WRONG_NUMBERS) {
            CHECK.due("operate into " + i, desk.operate(i, 0, X, Y, false), false);
            CHECK.due("operate of x " + i, desk.operate(X, 0, i, Y, false), false);
            CHECK.due("operate of y " + i, desk.operate(X, 0, X, i, true), false);
        }
        for (int operation : new int[] {-1, 15, 16, Integer.MIN_VALUE, Integer.MAX_VALUE}) {
            CHECK.due("operation " + operation, desk.operate(X, operation, X, Y, false), false);
            CHECK.due("operation " + operation, desk.operate(X, operation, X, Y, true), false);
        }
        CHECK.exact("after wrong arguments", desk, X, -42);
        CHECK.exact("after wrong arguments", desk, Y, 40);
    }

    /** The greatest tells bit 3, then bits tell the greatest and it bit 1, and then bits the least. */
    private static void promise7Settles() {
        RangeDesk desk = desk(bits(1, 10), exact(2));
        CHECK.due("NOT BELOW 2", desk.holds(2, X, Y, false), true);
        CHECK.number("not below 2", desk, X, 1, 10, 2, 11, 2, 11);
        desk.exact(Y, 4);
        CHECK.due("NOT ABOVE 4", desk.holds(8, X, Y, false), true);
        CHECK.exact("three rounds of settling", desk, X, 3);
    }

    private static void promise7Unsigned() {
        long[] above = known(0, 15, 6, 10, 6, 10);
        long[] below = known(0, 15, 5, 9, 5, 9);
        long[] both = known(0, 15, 5, 10, 5, 10);
        tells(1, unsigned(0, 10), unsigned(5, 50), above, below);
        tells(7, unsigned(5, 50), unsigned(0, 10), below, above);
        tells(2, unsigned(0, 10), unsigned(5, 50), both, both);
        tells(8, unsigned(5, 50), unsigned(0, 10), both, both);
        tells(1, any(), exact(100), known(0, MOST, 101, MOST, MIN, MAX), knownExact(100));
        tells(7, any(), exact(100), known(0, 127, 0, 99, 0, 99), knownExact(100));
        tells(1, any(), any(), known(0, MOST, 1, MOST, MIN, MAX), known(0, MOST, 0, MOST - 1, MIN, MAX));
        tells(1, exact(-1), exact(1), knownExact(-1), knownExact(1));
        tells(2, unsigned(0, 5), unsigned(5, 9), knownExact(5), knownExact(5));
        tells(8, unsigned(5, 9), unsigned(0, 5), knownExact(5), knownExact(5));
        tells(2, exact(5), exact(5), knownExact(5), knownExact(5));
        cannot(1, unsigned(0, 5), unsigned(5, 9));
        cannot(7, unsigned(5, 9), unsigned(0, 5));
        cannot(2, unsigned(0, 4), unsigned(5, 9));
        cannot(8, unsigned(5, 9), unsigned(0, 4));
        cannot(1, any(), exact(-1));
        cannot(1, exact(0), any());
        cannot(7, exact(-1), any());
        cannot(7, any(), exact(0));
        cannot(1, exact(1), exact(-1));
    }

    private static void promise7Signed() {
        long[] greater = known(0, MOST, 0, MOST, -4, 10);
        long[] less = known(0, MOST, 0, MOST, -5, 9);
        long[] both = known(0, MOST, 0, MOST, -5, 10);
        tells(5, signed(-10, 10), signed(-5, 50), greater, less);
        tells(9, signed(-5, 50), signed(-10, 10), less, greater);
        tells(6, signed(-10, 10), signed(-5, 50), both, both);
        tells(10, signed(-5, 50), signed(-10, 10), both, both);
        tells(9, any(), exact(0), known(MIN, MAX, MIN, MOST, MIN, -1), knownExact(0));
        tells(6, any(), exact(0), known(0, MAX, 0, MAX, 0, MAX), knownExact(0));
        tells(5, any(), any(), known(0, MOST, 0, MOST, MIN + 1, MAX), known(0, MOST, 0, MOST, MIN, MAX - 1));
        tells(5, exact(1), exact(-1), knownExact(1), knownExact(-1));
        tells(6, signed(-9, -5), signed(-5, 3), knownExact(-5), knownExact(-5));
        cannot(5, signed(-9, -5), signed(-5, 3));
        cannot(9, signed(-5, 3), signed(-9, -5));
        cannot(6, signed(-9, -6), signed(-5, 3));
        cannot(10, signed(-5, 3), signed(-9, -6));
        cannot(5, any(), exact(MAX));
        cannot(5, exact(MIN), any());
        cannot(9, exact(MAX), any());
        cannot(9, any(), exact(MIN));
        cannot(5, exact(-1), exact(1));
    }

    private static void promise7Same() {
        long[] met = known(8, 7, 10, 15, 10, 15);
        tells(0, bits(8, 7), unsigned(10, 20), met, met);
        tells(0, unsigned(10, 20), bits(8, 7), met, met);
        long[] few = known(0, 7, 3, 5, 3, 5);
        tells(0, signed(-5, 5), unsigned(3, 100), few, few);
        tells(0, any(), exact(-7), knownExact(-7), knownExact(-7));
        tells(0, bits(1, -2), bits(2, -4 | 1), known(3, -4, 3, MOST, MIN, MAX), known(3, -4, 3, MOST, MIN, MAX));
        long[] unsignedBoth = known(0, MOST, 5, MOST - 3, MIN, MAX);
        tells(0, unsigned(5, MOST - 1), unsigned(2, MOST - 3), unsignedBoth, unsignedBoth);
        tells(0, unsigned(2, MOST - 3), unsigned(5, MOST - 1), unsignedBoth, unsignedBoth);
        long[] signedBoth = known(0, MOST, 0, MOST, -5, 3);
        tells(0, signed(-5, 7), signed(-9, 3), signedBoth, signedBoth);
        tells(0, signed(-9, 3), signed(-5, 7), signedBoth, signedBoth);
        cannot(0, bits(1, -2), bits(0, -2));
        cannot(0, unsigned(1, 5), unsigned(6, 9));
        cannot(0, signed(-5, -1), signed(0, 4));

        tells(4, unsigned(5, 9), exact(5), known(0, 15, 6, 9, 6, 9), knownExact(5));
        tells(4, unsigned(5, 9), exact(9), known(0, 15, 5, 8, 5, 8), knownExact(9));
        tells(4, exact(5), unsigned(5, 9), knownExact(5), known(0, 15, 6, 9, 6, 9));
        tells(4, exact(9), unsigned(5, 9), knownExact(9), known(0, 15, 5, 8, 5, 8));
        tells(4, unsigned(5, 6), exact(5), knownExact(6), knownExact(5));
        tells(4, any(), exact(0), known(0, MOST, 1, MOST, MIN, MAX), knownExact(0));
        tells(4, any(), exact(-1), known(0, MOST, 0, MOST - 1, MIN, MAX), knownExact(-1));
        tells(4, any(), exact(MIN), known(0, MOST, 0, MOST, MIN + 1, MAX), knownExact(MIN));
        tells(4, exact(MAX), any(), knownExact(MAX), known(0, MOST, 0, MOST, MIN, MAX - 1));
        tells(4, signed(-3, 3), exact(-3), known(0, MOST, 0, MOST, -2, 3), knownExact(-3));
        tells(4, exact(5), exact(6), knownExact(5), knownExact(6));
        tellsNothing(4, false, unsigned(5, 9), exact(7));
        tellsNothing(4, false, unsigned(5, 9), unsigned(5, 9));
        cannot(4, exact(5), exact(5));
        cannot(4, exact(-1), exact(-1));
    }

    private static void promise7Meet() {
        tells(3, bits(0, 15), exact(8), known(8, 7, 8, 15, 8, 15), knownExact(8));
        tells(3, exact(4), bits(0, 15), knownExact(4), known(4, 11, 4, 15, 4, 15));
        tells(3, any(), exact(MIN), known(MIN, MAX, MIN, MOST, MIN, -1), knownExact(MIN));
        tells(3, exact(8), exact(12), knownExact(8), knownExact(12));
        tellsNothing(3, false, bits(0, 15), exact(12));
        tellsNothing(3, false, exact(12), bits(0, 15));
        tellsNothing(3, false, any(), any());
        cannot(3, bits(0, 7), exact(8));
        cannot(3, exact(0), any());
        cannot(3, any(), exact(0));
        cannot(3, bits(4, 3), bits(8, 16));

        tells(11, bits(8, 7), exact(3), known(8, 4, 8, 12, 8, 12), knownExact(3));
        tells(11, exact(3), bits(8, 7), knownExact(3), known(8, 4, 8, 12, 8, 12));
        tells(11, any(), exact(-1), knownExact(0), knownExact(-1));
        tells(11, any(), exact(MIN), known(0, MAX, 0, MAX, 0, MAX), knownExact(MIN));
        tells(11, exact(3), exact(4), knownExact(3), knownExact(4));
        tellsNothing(11, false, bits(8, 7), bits(16, 7));
        tellsNothing(11, false, any(), exact(0));
        cannot(11, bits(8, 7), bits(8, 1));
        cannot(11, exact(3), exact(1));
        cannot(11, unsigned(3, 9), exact(-1));
    }

    private static void promise7Narrow() {
        for (int relation = 0; relation < 12; relation++) {
            tellsNothing(relation, true, any(), any());
            tellsNothing(relation, true, any(), unsigned(5, 9));
            tellsNothing(relation, true, unsigned(5, 9), any());
        }
        cannotNarrow(0, exact(TWO_32), exact(10));
        cannotNarrow(1, exact(TWO_32), exact(10));
        cannotNarrow(2, exact(TWO_32), exact(10));
        cannotNarrow(3, exact(TWO_32), exact(3));
        cannotNarrow(4, exact(TWO_32 + 10), exact(10));
        cannotNarrow(7, exact(TWO_32 + 10), exact(10));
        cannotNarrow(7, exact(9), exact(TWO_32));
        cannotNarrow(8, exact(TWO_32 + 11), exact(10));
        cannotNarrow(11, exact(TWO_32 + 3), exact(1));
        tellsNothing(0, true, exact(TWO_32 + 10), exact(10));
        tellsNothing(1, true, exact(TWO_32 + 11), exact(10));
        tellsNothing(2, true, exact(TWO_32 + 10), exact(10));
        tellsNothing(3, true, exact(TWO_32 + 1), exact(3));
        tellsNothing(4, true, exact(TWO_32), exact(10));
        tellsNothing(7, true, exact(TWO_32), exact(10));
        tellsNothing(8, true, exact(TWO_32 + 10), exact(10));
        tellsNothing(11, true, exact(TWO_32 + 4), exact(3));
        for (int relation : new int[] {5, 6, 9, 10}) {
            tellsNothing(relation, true, exact(TWO_31), exact(10));
            tellsNothing(relation, true, exact(10), exact(TWO_31));
            tellsNothing(relation, true, exact(-1), exact(-1));
        }
    }

    private static void promise7NarrowLimits() {
        holds(7, true, unsigned(0, LOW), exact(10), known(0, 15, 0, 9, 0, 9), knownExact(10));
        tellsNothing(7, true, unsigned(0, LOW + 1), exact(10));
        holds(1, true, exact(10), unsigned(0, LOW), knownExact(10), known(0, 15, 0, 9, 0, 9));
        tellsNothing(1, true, exact(10), unsigned(0, LOW + 1));
        holds(3, true, unsigned(0, LOW), exact(TWO_31),
                known(TWO_31, TWO_31 - 1, TWO_31, LOW, TWO_31, LOW), knownExact(TWO_31));
        holds(9, true, unsigned(0, TWO_31 - 1), exact(10), known(0, 15, 0, 9, 0, 9), knownExact(10));
        tellsNothing(9, true, unsigned(0, TWO_31), exact(10));
        holds(5, true, exact(10), unsigned(0, TWO_31 - 1), knownExact(10), known(0, 15, 0, 9, 0, 9));
        tellsNothing(5, true, exact(10), unsigned(0, TWO_31));
        cannotNarrow(5, exact(TWO_31 - 2), exact(TWO_31 - 1));
        holds(6, true, exact(3), unsigned(3, 9), knownExact(3), knownExact(3));
        holds(10, true, unsigned(3, 9), exact(3), knownExact(3), knownExact(3));
    }

    private static void promise7Arguments() {
        RangeDesk desk = desk(unsigned(0, 10), unsigned(5, 50));
        long[] xWas = Check.all(desk, X);
        long[] yWas = Check.all(desk, Y);
        for (int relation = 0; relation < 12; relation++) {
            CHECK.due("holds of x and x", desk.holds(relation, X, X, false), false);
            CHECK.due("holds of x and x", desk.holds(relation, X, X, true), false);
        }
        for (int i : Check.WRONG_NUMBERS) {
            CHECK.due("holds of x " + i, desk.holds(0, i, Y, false), false);
            CHECK.due("holds of y " + i, desk.holds(0, X, i, true), false);
            CHECK.due("holds of both " + i, desk.holds(0, i, i, true), false);
        }
        for (int relation : new int[] {-1, 12, 13, Integer.MIN_VALUE, Integer.MAX_VALUE}) {
            CHECK.due("relation " + relation, desk.holds(relation, X, Y, false), false);
            CHECK.due("relation " + relation, desk.holds(relation, X, Y, true), false);
        }
        CHECK.number("after wrong arguments, x", desk, X, xWas);
        CHECK.number("after wrong arguments, y", desk, Y, yWas);
        CHECK.due("0 and 15", desk.holds(0, 0, 15, false), true);
    }

    private static void promise8() {
        RangeDesk desk = new RangeDesk();
        desk.bits(15, 32, 3);
        desk.bounds(14, 33, 34, false);
        desk.holds(0, 15, 14, false);
        CHECK.due("value", desk.look(15, 0), 32);
        CHECK.due("mask", desk.look(15, 1), 3);
        CHECK.due("least", desk.look(15, 2), 33);
        CHECK.due("greatest", desk.look(15, 3), 34);
        desk.bounds(14, -7, 9, true);
        CHECK.due("signed least", desk.look(14, 4), -7);
        CHECK.due("signed greatest", desk.look(14, 5), 9);
        CHECK.due("least", desk.look(14, 2), 0);
        CHECK.due("greatest", desk.look(14, 3), -1);
        for (int i : Check.WRONG_NUMBERS) {
            for (int what = -1; what <= 6; what++) {
                int part = what;
                CHECK.throwsIndex("look of " + i, () -> desk.look(i, part));
            }
        }
        for (int what : new int[] {-1, 6, 7, Integer.MIN_VALUE, Integer.MAX_VALUE}) {
            CHECK.throwsIndex("look for " + what, () -> desk.look(15, what));
        }
    }

    private static void promise9() {
        RangeDesk desk = desk(hollow(), exact(4));
        for (long c = 0; c < 16; c++) {
            CHECK.due("a hollow number has " + c, desk.has(X, c), false);
        }
        desk.bits(X, 5, 10);
        for (long c = 0; c < 20; c++) {
            CHECK.due("bits 5, 10 have " + c, desk.has(X, c), c == 5 || c == 7 || c == 13 || c == 15);
        }
        CHECK.due("bits 5, 10 have one with a high bit", desk.has(X, MIN | 5), false);
        desk.bounds(X, 5, MIN, false);
        for (long c : new long[] {5, 6, MAX, MIN}) {
            CHECK.due("[5, 2^63] has " + c, desk.has(X, c), true);
        }
        for (long c : new long[] {4, 0, MIN + 1, -1}) {
            CHECK.due("[5, 2^63] has " + c, desk.has(X, c), false);
        }
        desk.bounds(X, -3, 4, true);
        for (long c = -10; c < 10; c++) {
            CHECK.due("{-3, 4} has " + c, desk.has(X, c), c >= -3 && c <= 4);
        }
        desk.any(X);
        desk.exact(Y, 7);
        for (long c : EDGES) {
            CHECK.due("ANY has " + c, desk.has(X, c), true);
            CHECK.due("EXACT 7 has " + c, desk.has(Y, c), false);
        }
        CHECK.due("EXACT 7 has 7", desk.has(Y, 7), true);
        for (int i : Check.WRONG_NUMBERS) {
            CHECK.throwsIndex("has of " + i, () -> desk.has(i, 0));
        }
    }

    private static void promise10() {
        covers(any(), any(), true, true);
        covers(any(), exact(5), true, false);
        covers(exact(5), exact(5), true, true);
        covers(exact(5), exact(6), false, false);
        covers(unsigned(10, 20), unsigned(10, 20), true, true);
        covers(unsigned(10, 20), unsigned(11, 20), true, false);
        covers(unsigned(10, 20), unsigned(10, 19), true, false);
        covers(unsigned(10, 20), unsigned(9, 19), false, false);
        covers(signed(-5, 6), signed(-5, 5), true, false);
        covers(signed(-5, 6), signed(-4, 6), true, false);
        covers(any(), unsigned(0, MOST - 1), true, false);
        covers(any(), unsigned(1, MOST), true, false);
        covers(unsigned(0, MOST - 1), bits(0, -2), true, false);
        covers(bits(0, 7), bits(0, 5), true, false);
        covers(bits(8, 7), bits(12, 3), true, false);
        covers(bits(8, 7), bits(4, 3), false, false);
        covers(signed(-5, -1), signed(-3, -2), true, false);
        covers(signed(-1, 1), exact(-1), true, false);
        covers(signed(-1, 1), exact(-2), false, false);

        RangeDesk desk = desk(bits(0, -2), bits(1, -2));
        for (int i : new int[] {X, Y}) {
            desk.bounds(R, 2, 9, false);
            desk.holds(0, i, R, false);
        }
        CHECK.number("even ones", desk, X, 0, 14, 2, 9, 2, 9);
        CHECK.number("odd ones", desk, Y, 1, 14, 2, 9, 2, 9);
        CHECK.due("even covers odd", desk.covers(X, Y), false);
        CHECK.due("odd covers even", desk.covers(Y, X), false);
        for (int i : Check.WRONG_NUMBERS) {
            CHECK.throwsIndex("covers of " + i, () -> desk.covers(i, X));
            CHECK.throwsIndex("covers of other " + i, () -> desk.covers(X, i));
            CHECK.throwsIndex("covers of both " + i, () -> desk.covers(i, i));
        }
    }
}
