/**
 * The sentences of the document that name a boundary case of the numbers themselves, one test for each:
 * promises 1 to 5 and 8 to 10, with LONGS, NUMBERS, EXACT and ANY, and TO SETTLE.
 */
public final class BoundaryNumbersTest extends ByHand {

    private static final long[] ENDS = {0, 1, MOST, MOST - 1, MIN, MIN + 1, MAX, MAX - 1, LOW, LOW + 1, TWO_31};
    private static final int[] WRONG_WHATS = {-1, 6, 7, 8, 256, Integer.MIN_VALUE, Integer.MAX_VALUE};

    public static void main(String[] args) {
        terms();
        settling();
        setting();
        asking();
        CHECK.end();
    }

    private static void terms() {
        CHECK.sentence("Promise 5, LONGS", "UNSIGNED they are 0 .. MOST (all bits 1)",
                BoundaryNumbersTest::unsignedOrder);
        CHECK.sentence("Promise 4, NUMBERS",
                "a 1 in the mask is a bit that is not known, where the value has 0",
                BoundaryNumbersTest::noValueUnderTheMask);
        CHECK.sentence("Promise 9, NUMBERS",
                "It stands for the longs that agree with the value in all bits that are known, and are within both bounds.",
                BoundaryNumbersTest::standsFor);
        CHECK.sentence("Promise 2, EXACT", "EXACT c: value c, mask 0, [c, c], {c, c}.",
                BoundaryNumbersTest::exactEnds);
        CHECK.sentence("Promise 3, ANY", "ANY: mask MOST, [0, MOST], {least long, greatest long}.",
                BoundaryNumbersTest::anyEnds);
        CHECK.sentence("Promises 6 and 7, EXACT", "A number IS EXACT if its mask is 0.",
                BoundaryNumbersTest::isExactByItsMask);
        CHECK.sentence("Promise 6, LOW", "LOW is the long with the lowest 32 bits 1.",
                BoundaryNumbersTest::low);
    }

    private static void settling() {
        CHECK.sentence("Promise 7, TO SETTLE", "TO SETTLE a number: three times:",
                BoundaryNumbersTest::threeTimes);
        CHECK.sentence("Promise 4, TO SETTLE (1)",
                "its unsigned bounds: the greater of least and value, the lesser of greatest and (value | mask).",
                BoundaryNumbersTest::boundsByBits);
        CHECK.sentence("Promise 5, TO SETTLE (2)", "If its unsigned bounds have the same highest bit:",
                BoundaryNumbersTest::sameHighestBit);
        CHECK.sentence("Promise 7, TO SETTLE (2)", "its signed bounds: the greater of least and the unsigned least,"
                + " the lesser of greatest and the unsigned greatest (all as signed).",
                BoundaryNumbersTest::signedByUnsigned);
        CHECK.sentence("Promise 5, TO SETTLE (3)", "If its signed bounds have the same sign:",
                BoundaryNumbersTest::sameSign);
        CHECK.sentence("Promise 7, TO SETTLE (3)", "its unsigned bounds: the greater of least and the signed least,"
                + " the lesser of greatest and the signed greatest (as unsigned).",
                BoundaryNumbersTest::unsignedBySigned);
        CHECK.sentence("Promise 5, TO SETTLE (4)",
                "Let k have 1 in the highest place in which the unsigned bounds differ and all below",
                BoundaryNumbersTest::highestPlace);
        CHECK.sentence("Promise 5, TO SETTLE (4)", "(0 if they don't differ)",
                BoundaryNumbersTest::boundsThatDontDiffer);
        CHECK.sentence("Promise 7, TO SETTLE (4)",
                "if a bit that is known and not in k differs from that of the unsigned least, it is EMPTY;",
                BoundaryNumbersTest::emptyByBits);
        CHECK.sentence("Promise 7, TO SETTLE (4)",
                "else the bits not in k become those of the unsigned least, known.",
                BoundaryNumbersTest::bitsByBounds);
        CHECK.sentence("Promise 7, EMPTY", "It is EMPTY, too, if behind any of (1) to (4) a least one is above its"
                + " greatest; then no more is done.",
                BoundaryNumbersTest::emptyByBounds);
    }

    private static void setting() {
        CHECK.sentence("Promise 1", "Sixteen numbers, 0 .. 15, each EXACT 0.",
                BoundaryNumbersTest::sixteenNumbers);
        CHECK.sentence("Promise 2", "A number becomes EXACT: true; false if there is no such number.",
                BoundaryNumbersTest::exactOfNoSuchNumber);
        CHECK.sentence("Promise 3", "A number becomes ANY: true; false if there is no such number.",
                BoundaryNumbersTest::anyOfNoSuchNumber);
        CHECK.sentence("Promise 4", "A number becomes ANY with these bits (value without mask), settled: true;",
                BoundaryNumbersTest::bitsAtTheEnds);
        CHECK.sentence("Promise 4", "settled: true; false if there is no such number.",
                BoundaryNumbersTest::bitsOfNoSuchNumber);
        CHECK.sentence("Promise 5", "A number becomes ANY with these bounds, signed or unsigned, settled: true;",
                BoundaryNumbersTest::boundsAtTheEnds);
        CHECK.sentence("Promise 5", "false if there is no such number, or the least is above the greatest.",
                BoundaryNumbersTest::boundsOfNoSuchNumber);
        CHECK.sentence("Promise 5", "or the least is above the greatest.",
                BoundaryNumbersTest::leastAboveGreatest);
    }

    private static void asking() {
        CHECK.sentence("Promise 8", "what 0: value, 1: mask, 2, 3: unsigned bounds, 4, 5: signed bounds.",
                BoundaryNumbersTest::sixWhats);
        CHECK.sentence("Promise 8", "IndexOutOfBoundsException if there is no such number or what.",
                BoundaryNumbersTest::lookAtNoSuchOne);
        CHECK.sentence("Promise 9",
                "Whether a number stands for a long. IndexOutOfBoundsException if there is no such number.",
                BoundaryNumbersTest::hasOfNoSuchNumber);
        CHECK.sentence("Promise 10", "what is known of it in bits and bounds is known of that, too.",
                BoundaryNumbersTest::coversByWhatIsKnown);
        CHECK.sentence("Promise 10", "IndexOutOfBoundsException if there are no such numbers.",
                BoundaryNumbersTest::coversOfNoSuchNumbers);
    }

    // ---- LONGS, NUMBERS, EXACT and ANY

    private static void unsignedOrder() {
        isSet(unsigned(0, MOST), knownAny());
        isSet(unsigned(MAX, MIN), 0, MOST, MAX, MIN, MIN, MAX);
        isSet(unsigned(MOST, MOST), knownExact(MOST));
        isSet(unsigned(0, 0), knownExact(0));
        isSet(unsigned(1, MOST - 1), 0, MOST, 1, MOST - 1, MIN, MAX);
        RangeDesk desk = desk(unsigned(MAX, MIN), exact(0));
        CHECK.due("MOST is not below 0", desk.bounds(Y, MOST, 0, false), false);
        CHECK.due("2^63 is not below 2^63 - 1", desk.bounds(Y, MIN, MAX, false), false);
        for (long c : new long[] {MAX, MIN}) {
            CHECK.due("[2^63 - 1, 2^63] has " + c, desk.has(X, c), true);
        }
        for (long c : new long[] {MAX - 1, MIN + 1, 0, MOST}) {
            CHECK.due("[2^63 - 1, 2^63] has " + c, desk.has(X, c), false);
        }
    }

    private static void noValueUnderTheMask() {
        isSet(bits(MOST, MOST), knownAny());
        isSet(bits(MOST, 1), -2, 1, -2, -1, -2, -1);
        isSet(bits(MOST, MIN), MAX, MIN, MAX, MOST, MIN, MAX);
        isSet(bits(15, 3), 12, 3, 12, 15, 12, 15);
    }

    /** Each of the five things that can be against a long, with nothing but that against it. */
    private static void standsFor() {
        Setting wide = both(unsigned(5, MIN + 9), signed(MIN + 4, 100));
        RangeDesk desk = desk(wide, both(wide, bits(1, -2)));
        CHECK.number("the even and odd ones", desk, X, 0, MOST, 5, MIN + 9, MIN + 4, 100);
        CHECK.number("the odd ones", desk, Y, 1, -2, 5, MIN + 9, MIN + 4, 100);
        stand(desk, "at the unsigned least", 5, true, true);
        stand(desk, "below the unsigned least", 3, false, false);
        stand(desk, "just below the unsigned least", 4, false, false);
        stand(desk, "at the unsigned greatest", MIN + 9, true, true);
        stand(desk, "just above the unsigned greatest", MIN + 10, false, false);
        stand(desk, "MOST, above the unsigned greatest", MOST, false, false);
        stand(desk, "at the signed least", MIN + 4, true, false);
        stand(desk, "just above the signed least", MIN + 5, true, true);
        stand(desk, "just below the signed least", MIN + 3, false, false);
        stand(desk, "at the signed greatest", 100, true, false);
        stand(desk, "just below the signed greatest", 99, true, true);
        stand(desk, "just above the signed greatest", 101, false, false);
        stand(desk, "a bit that differs", 50, true, false);
        stand(desk, "0", 0, false, false);
        stand(desk, "the greatest long", MAX, false, false);
        stand(desk, "the least long", MIN, false, false);
        RangeDesk ends = desk(any(), hollow());
        for (long c : ENDS) {
            CHECK.due("ANY has " + c, ends.has(X, c), true);
            CHECK.due("EXACT " + c + " has it", ends.exact(R, c) && ends.has(R, c), true);
            CHECK.due("EXACT " + c + " has one more", ends.has(R, c + 1), false);
            CHECK.due("EXACT " + c + " has one less", ends.has(R, c - 1), false);
        }
        for (long c = 0; c < 16; c++) {
            CHECK.due("a number that stands for none has " + c, ends.has(Y, c), false);
        }
    }

    private static void stand(RangeDesk desk, String what, long c, boolean inBounds, boolean inBoth) {
        CHECK.due(what + ": has(" + c + ")", desk.has(X, c), inBounds);
        CHECK.due(what + ": has(" + c + ") of the odd ones", desk.has(Y, c), inBoth);
    }

    private static void exactEnds() {
        for (long c : ENDS) {
            isSet(exact(c), c, 0, c, c, c, c);
        }
    }

    private static void anyEnds() {
        isSet(any(), 0, -1L, 0, -1L, Long.MIN_VALUE, Long.MAX_VALUE);
    }

    /** However it came to be so; and a number of one long alone is not EXACT by that. */
    private static void isExactByItsMask() {
        Setting[] sevens = {exact(7), bits(7, 0), unsigned(7, 7), signed(7, 7), both(bits(7, 8), unsigned(0, 7))};
        for (Setting seven : sevens) {
            isSet(both(seven, any()), knownExact(7));
            operates(13, seven, exact(2), knownExact(0x700));
            operates(2, seven, exact(3), knownExact(21));
            operates(3, unsigned(20, 40), seven, 0, 7, 2, 5, 2, 5);
            operates(9, exact(256), seven, knownExact(2));
            cannot(4, seven, exact(7));
            cannot(4, exact(7), seven);
        }
        isSet(sevenAlone(), 7, 8, 7, 14, 7, 14);
        operates(13, sevenAlone(), exact(2), 0, 65535, 0, 65535, 0, 65535);
        operates(2, sevenAlone(), exact(1), 0, 15, 7, 14, 7, 14);
        operates(3, unsigned(20, 40), sevenAlone(), 0, 63, 0, 40, 0, 40);
        operates(9, exact(256), sevenAlone(), knownAny());
        tellsNothing(4, false, unsigned(7, 9), sevenAlone());
        tellsNothing(11, false, unsigned(0, 7), sevenAlone());
    }

    private static void low() {
        narrow(12, any(), exact(0xFFFFFFFFL), knownExact(4294967295L));
        narrow(12, any(), exact(0x100000000L), knownExact(0));
        operates(14, any(), exact(4), 0, 4294967295L, 0, 4294967295L, 0, 4294967295L);
        narrow(12, any(), any(), 0, 4294967295L, 0, 4294967295L, 0, 4294967295L);
    }

    // ---- TO SETTLE

    /** The greatest tells bit 3, then bits tell the greatest and it bit 1, and then bits the least. */
    private static void threeTimes() {
        Setting odd = both(bits(1, 10), unsigned(2, 11));
        isSet(odd, 1, 10, 2, 11, 2, 11);
        tells(8, odd, exact(4), knownExact(3), knownExact(4));
        tells(2, exact(4), odd, knownExact(4), knownExact(3));
    }

    private static void boundsByBits() {
        isSet(bits(MIN, 1), MIN, 1, MIN, MIN + 1, MIN, MIN + 1);
        isSet(bits(0, MIN), 0, MIN, 0, MIN, MIN, MAX);
        isSet(bits(MIN, MAX), MIN, MAX, MIN, MOST, MIN, -1);
        isSet(bits(0, MAX), 0, MAX, 0, MAX, 0, MAX);
        isSet(bits(1, MIN), 1, MIN, 1, MIN + 1, MIN, MAX);
        isSet(bits(5, 0), knownExact(5));
        Setting high = bits(MIN | 1, 6);
        isSet(both(high, unsigned(5, MOST)), MIN + 1, 6, MIN + 1, MIN + 7, MIN + 1, MIN + 7);
        isSet(both(high, unsigned(MIN + 2, MIN + 6)), MIN + 1, 6, MIN + 2, MIN + 6, MIN + 2, MIN + 6);
        isSet(both(bits(1, -2), unsigned(0, MOST)), 1, -2, 1, MOST, MIN, MAX);
        isSet(both(bits(0, -2), unsigned(0, MOST)), 0, -2, 0, MOST - 1, MIN, MAX);
    }

    private static void sameHighestBit() {
        isSet(unsigned(MAX - 1, MAX), MAX - 1, 1, MAX - 1, MAX, MAX - 1, MAX);
        isSet(unsigned(MAX, MIN), 0, MOST, MAX, MIN, MIN, MAX);
        isSet(unsigned(MIN, MIN + 1), MIN, 1, MIN, MIN + 1, MIN, MIN + 1);
        isSet(unsigned(0, MAX), 0, MAX, 0, MAX, 0, MAX);
        isSet(unsigned(MIN, MOST), MIN, MAX, MIN, MOST, MIN, -1);
        isSet(unsigned(0, MIN), 0, MOST, 0, MIN, MIN, MAX);
        isSet(unsigned(MAX, MOST), 0, MOST, MAX, MOST, MIN, MAX);
    }

    private static void signedByUnsigned() {
        isSet(both(signed(-1, 5), unsigned(3, 100)), 0, 7, 3, 5, 3, 5);
        isSet(both(signed(-1, 100), unsigned(3, 5)), 0, 7, 3, 5, 3, 5);
        isSet(both(signed(-5, 9), unsigned(MIN, -3)), -8, 7, -5, -3, -5, -3);
        isSet(both(signed(MIN, 9), unsigned(-5, MOST)), -8, 7, -5, -1, -5, -1);
        // The bits alone tell the highest one.
        tells(11, signed(-5, 9), exact(MIN), known(0, 15, 0, 9, 0, 9), knownExact(MIN));
        tells(3, signed(-5, 9), exact(MIN), known(-8, 7, -5, -1, -5, -1), knownExact(MIN));
    }

    private static void sameSign() {
        isSet(signed(-1, 0), 0, MOST, 0, MOST, -1, 0);
        isSet(signed(0, 0), knownExact(0));
        isSet(signed(-1, -1), knownExact(-1));
        isSet(signed(0, MAX), 0, MAX, 0, MAX, 0, MAX);
        isSet(signed(-1, MAX), 0, MOST, 0, MOST, -1, MAX);
        isSet(signed(MIN, -1), MIN, MAX, MIN, MOST, MIN, -1);
        isSet(signed(MIN, 0), 0, MOST, 0, MOST, MIN, 0);
        isSet(signed(MIN, MAX), knownAny());
    }

    private static void unsignedBySigned() {
        tells(6, unsigned(3, MIN + 5), exact(0), known(0, MAX, 3, MAX, 3, MAX), knownExact(0));
        tells(6, unsigned(3, MIN + 5), exact(9), known(0, MAX, 9, MAX, 9, MAX), knownExact(9));
        tells(9, unsigned(3, MIN + 5), exact(0), known(MIN, 7, MIN, MIN + 5, MIN, MIN + 5), knownExact(0));
        tells(9, unsigned(3, MIN + 5), exact(MIN + 4), known(MIN, 3, MIN, MIN + 3, MIN, MIN + 3),
                knownExact(MIN + 4));
        tells(6, both(signed(MIN, 9), unsigned(3, MOST)), exact(0), known(0, 15, 3, 9, 3, 9), knownExact(0));
    }

    private static void highestPlace() {
        isSet(unsigned(4, 5), 4, 1, 4, 5, 4, 5);
        isSet(unsigned(7, 8), 0, 15, 7, 8, 7, 8);
        isSet(unsigned(0, 1), 0, 1, 0, 1, 0, 1);
        isSet(unsigned(MOST - 1, MOST), -2, 1, -2, -1, -2, -1);
        isSet(unsigned(MAX, MIN), 0, MOST, MAX, MIN, MIN, MAX);
        isSet(unsigned(1, MIN), 0, MOST, 1, MIN, MIN, MAX);
        isSet(unsigned(MIN + 1, MOST - 1), MIN, MAX, MIN + 1, MOST - 1, MIN + 1, -2);
        isSet(unsigned(1, MAX - 1), 0, MAX, 1, MAX - 1, 1, MAX - 1);
        isSet(unsigned(TWO_32, TWO_32 + LOW), TWO_32, LOW, TWO_32, TWO_32 + LOW, TWO_32, TWO_32 + LOW);
        isSet(unsigned(LOW, LOW + 1), 0, 2 * TWO_32 - 1, LOW, LOW + 1, LOW, LOW + 1);
        isSet(unsigned(10, 20), 0, 31, 10, 20, 10, 20);
        isSet(signed(-3, -2), -4, 3, -3, -2, -3, -2);
    }

    private static void boundsThatDontDiffer() {
        for (long c : ENDS) {
            isSet(unsigned(c, c), knownExact(c));
            isSet(signed(c, c), knownExact(c));
        }
    }

    /** Nothing crosses here: but a known 0 stands where all between the bounds have 1, or a 1 where they have 0. */
    private static void emptyByBits() {
        Setting zero = both(bits(2, 9), unsigned(4, 11));
        isSet(zero, 2, 9, 4, 11, 4, 11);
        cannot(8, zero, exact(7));
        cannot(2, exact(7), zero);
        Setting one = both(bits(4, 11), unsigned(5, 11));
        isSet(one, 4, 11, 5, 11, 5, 11);
        cannot(2, one, exact(8));
        cannot(8, exact(8), one);
        Setting high = both(bits(2L << 60, 9L << 60), unsigned(4L << 60, 11L << 60));
        isSet(high, 2L << 60, 9L << 60, 4L << 60, 11L << 60, MIN, MAX);
        cannot(8, high, exact(7L << 60));
        // Where the differing bit is in k, it is not EMPTY, though no long agrees.
        isSet(both(bits(2, 9), unsigned(4, 9)), 2, 9, 4, 9, 4, 9);
        isSet(both(bits(4, 11), unsigned(8, 12)), knownExact(12));
    }

    private static void bitsByBounds() {
        isSet(both(bits(0, 15), unsigned(12, 13)), 12, 1, 12, 13, 12, 13);
        isSet(both(bits(1, -2), unsigned(MIN, MIN + 6)), MIN + 1, 6, MIN + 1, MIN + 6, MIN + 1, MIN + 6);
        isSet(both(bits(0, -2), unsigned(5, 7)), 4, 2, 5, 6, 5, 6);
        isSet(both(bits(1, -4), unsigned(4, 7)), knownExact(5));
        isSet(both(bits(1, -2), unsigned(7, 8)), 1, 14, 7, 8, 7, 8);
    }

    private static void emptyByBounds() {
        // Behind (1): by the bounds as they come, by a (value | mask) below the least, by a value above the greatest.
        cannot(1, bits(8, 1), exact(9));
        cannot(5, bits(8, 1), exact(9));
        cannot(11, unsigned(7, 9), exact(15));
        cannot(3, both(bits(1, 10), unsigned(0, 8)), exact(8));
        // One kind crosses, and the other never comes to know of it.
        cannot(2, unsigned(0, 4), exact(MIN));
        cannot(6, signed(-9, -5), exact(3));
        // Behind (2) and (3): each kind of bounds is in order until the other comes to it.
        Setting apart = both(unsigned(5, MIN), signed(-10, 3));
        isSet(apart, 0, MOST, 5, MIN, -10, 3);
        cannot(11, apart, exact(MIN));
        cannot(6, apart, exact(0));
        cannot(3, apart, exact(MIN));
        cannot(9, apart, exact(0));
        // Not in the first round, but in the second.
        Setting nine = both(bits(1, 8), unsigned(2, 9));
        isSet(nine, 1, 8, 2, 9, 2, 9);
        cannot(8, nine, exact(4));
        // The last that is left is no EMPTY.
        tells(1, bits(8, 1), exact(8), knownExact(9), knownExact(8));
        tells(11, unsigned(7, 8), exact(7), known(0, 8, 7, 8, 7, 8), knownExact(7));
    }

    // ---- Promises 1 to 5

    private static void sixteenNumbers() {
        RangeDesk desk = new RangeDesk();
        for (int i = 0; i <= 15; i++) {
            CHECK.exact("a new object", desk, i, 0);
        }
        CHECK.throwsIndex("a new object's number -1", () -> desk.look(-1, 0));
        CHECK.throwsIndex("a new object's number 16", () -> desk.look(16, 0));
        isStillMarked("setting all sixteen", marked());
        RangeDesk other = marked();
        CHECK.exact("an object made ahead of another", desk, 15, 0);
        CHECK.due("any(0)", other.any(0), true);
        CHECK.exact("an object beside another", desk, 0, 0);
        CHECK.exact("an object made behind another", new RangeDesk(), 0, 0);
    }

    private static void exactOfNoSuchNumber() {
        RangeDesk desk = marked();
        for (int i : Check.WRONG_NUMBERS) {
            CHECK.due("exact of " + i, desk.exact(i, 7), false);
        }
        isStillMarked("exact of no such numbers", desk);
        CHECK.due("exact of 0", desk.exact(0, MIN), true);
        CHECK.due("exact of 15", desk.exact(15, MOST), true);
        CHECK.exact("exact of 0", desk, 0, MIN);
        CHECK.exact("exact of 15", desk, 15, MOST);
        CHECK.exact("the number beside", desk, 1, 101);
        CHECK.exact("the number beside", desk, 14, 114);
    }

    private static void anyOfNoSuchNumber() {
        RangeDesk desk = marked();
        for (int i : Check.WRONG_NUMBERS) {
            CHECK.due("any of " + i, desk.any(i), false);
        }
        isStillMarked("any of no such numbers", desk);
        CHECK.due("any of 0", desk.any(0), true);
        CHECK.due("any of 15", desk.any(15), true);
        CHECK.any("any of 0", desk, 0);
        CHECK.any("any of 15", desk, 15);
        CHECK.exact("the number beside", desk, 1, 101);
        CHECK.exact("the number beside", desk, 14, 114);
    }

    /** What the number was ahead of it is forgotten. */
    private static void bitsAtTheEnds() {
        isSet(bits(0, 0), knownExact(0));
        isSet(bits(MOST, 0), knownExact(MOST));
        isSet(bits(MIN, 0), knownExact(MIN));
        isSet(bits(0, MOST), knownAny());
        isSet(bits(MOST, MOST), knownAny());
        isSet(bits(MOST, LOW), ~LOW, LOW, ~LOW, MOST, ~LOW, -1);
        isSet(bits(1, -2), 1, -2, 1, MOST, MIN, MAX);
        RangeDesk desk = desk(unsigned(3, 5), signed(-5, 5));
        CHECK.due("bits of a bounded one", desk.bits(X, 0, 8) && desk.bits(Y, 0, MOST), true);
        CHECK.number("bits of an unsigned one", desk, X, 0, 8, 0, 8, 0, 8);
        CHECK.any("bits of a signed one", desk, Y);
    }

    private static void bitsOfNoSuchNumber() {
        RangeDesk desk = marked();
        for (int i : Check.WRONG_NUMBERS) {
            CHECK.due("bits of " + i, desk.bits(i, 12, 3), false);
        }
        isStillMarked("bits of no such numbers", desk);
        CHECK.due("bits of 0", desk.bits(0, 12, 3), true);
        CHECK.due("bits of 15", desk.bits(15, 8, 1), true);
        CHECK.number("bits of 0", desk, 0, 12, 3, 12, 15, 12, 15);
        CHECK.number("bits of 15", desk, 15, 8, 1, 8, 9, 8, 9);
    }

    private static void boundsAtTheEnds() {
        for (long c : ENDS) {
            isSet(unsigned(c, c), knownExact(c));
            isSet(signed(c, c), knownExact(c));
        }
        isSet(unsigned(0, MOST), knownAny());
        isSet(signed(MIN, MAX), knownAny());
        isSet(unsigned(0, MOST - 1), 0, MOST, 0, MOST - 1, MIN, MAX);
        isSet(unsigned(1, MOST), 0, MOST, 1, MOST, MIN, MAX);
        isSet(signed(MIN + 1, MAX), 0, MOST, 0, MOST, MIN + 1, MAX);
        isSet(signed(MIN, MAX - 1), 0, MOST, 0, MOST, MIN, MAX - 1);
        RangeDesk desk = desk(bits(1, -2), signed(-5, 5));
        set(desk, X, unsigned(2, MOST));
        CHECK.number("unsigned bounds of one with bits", desk, X, 0, MOST, 2, MOST, MIN, MAX);
        set(desk, Y, unsigned(2, MOST));
        CHECK.number("unsigned bounds of a signed one", desk, Y, 0, MOST, 2, MOST, MIN, MAX);
        set(desk, X, signed(-3, 4));
        CHECK.number("signed bounds of an unsigned one", desk, X, 0, MOST, 0, MOST, -3, 4);
    }

    private static void boundsOfNoSuchNumber() {
        RangeDesk desk = marked();
        for (int i : Check.WRONG_NUMBERS) {
            CHECK.due("unsigned bounds of " + i, desk.bounds(i, 3, 4, false), false);
            CHECK.due("signed bounds of " + i, desk.bounds(i, -3, 4, true), false);
            CHECK.due("crossed bounds of " + i, desk.bounds(i, 4, 3, true), false);
        }
        isStillMarked("bounds of no such numbers", desk);
        CHECK.due("bounds of 0", desk.bounds(0, 4, 5, false), true);
        CHECK.due("bounds of 15", desk.bounds(15, 4, 5, true), true);
        CHECK.number("bounds of 0", desk, 0, 4, 1, 4, 5, 4, 5);
        CHECK.number("bounds of 15", desk, 15, 4, 1, 4, 5, 4, 5);
    }

    private static void leastAboveGreatest() {
        RangeDesk desk = marked();
        long[][] crossedUnsigned = {{1, 0}, {MOST, 0}, {MOST, MOST - 1}, {MIN, MAX}, {-1, 1}, {MIN + 1, MIN}, {MAX, 0}};
        for (long[] ends : crossedUnsigned) {
            CHECK.due("unsigned " + Check.text(ends), desk.bounds(5, ends[0], ends[1], false), false);
        }
        long[][] crossedSigned = {{1, 0}, {MAX, MIN}, {0, -1}, {MIN + 1, MIN}, {MAX, MAX - 1}, {1, -1}, {-1, -2}};
        for (long[] ends : crossedSigned) {
            CHECK.due("signed " + Check.text(ends), desk.bounds(5, ends[0], ends[1], true), false);
        }
        isStillMarked("crossed bounds", desk);
        isSet(unsigned(1, -1), 0, MOST, 1, MOST, MIN, MAX);
        isSet(signed(-1, 1), 0, MOST, 0, MOST, -1, 1);
        // A least that is its greatest is not above it.
        for (long c : ENDS) {
            isSet(unsigned(c, c), knownExact(c));
            isSet(signed(c, c), knownExact(c));
        }
    }

    // ---- Promises 8 to 10

    private static void sixWhats() {
        Setting wide = both(both(unsigned(5, MIN + 9), signed(MIN + 4, 100)), bits(1, -2));
        RangeDesk desk = new RangeDesk();
        for (int i = 0; i < Check.NUMBERS; i += 15) {
            set(desk, i, wide);
            CHECK.due("value", desk.look(i, 0), 1);
            CHECK.due("mask", desk.look(i, 1), -2);
            CHECK.due("unsigned least", desk.look(i, 2), 5);
            CHECK.due("unsigned greatest", desk.look(i, 3), MIN + 9);
            CHECK.due("signed least", desk.look(i, 4), MIN + 4);
            CHECK.due("signed greatest", desk.look(i, 5), 100);
        }
    }

    private static void lookAtNoSuchOne() {
        for (int i : Check.WRONG_NUMBERS) {
            RangeDesk desk = marked();
            for (int what = 0; what < 6; what++) {
                int part = what;
                CHECK.throwsIndex("look at " + i + " for " + part, () -> desk.look(i, part));
            }
            for (int what : WRONG_WHATS) {
                CHECK.throwsIndex("look at " + i + " for " + what, () -> desk.look(i, what));
            }
            isStillMarked("looking at no such number", desk);
        }
        for (int what : WRONG_WHATS) {
            RangeDesk desk = marked();
            for (int i = 0; i < Check.NUMBERS; i++) {
                int number = i;
                CHECK.throwsIndex("look at " + i + " for " + what, () -> desk.look(number, what));
            }
            isStillMarked("looking for no such what", desk);
        }
    }

    private static void hasOfNoSuchNumber() {
        RangeDesk desk = marked();
        for (int i : Check.WRONG_NUMBERS) {
            CHECK.throwsIndex("has of " + i, () -> desk.has(i, 100));
            CHECK.throwsIndex("has of " + i, () -> desk.has(i, MIN));
        }
        isStillMarked("has of no such numbers", desk);
        CHECK.due("0 has 100", desk.has(0, 100), true);
        CHECK.due("15 has 115", desk.has(15, 115), true);
        CHECK.due("15 has 100", desk.has(15, 100), false);
    }

    /** Each of the six things that are known, with nothing but that against it; and all of them alike. */
    private static void coversByWhatIsKnown() {
        Setting wide = both(unsigned(5, MIN + 9), signed(MIN + 4, 100));
        covers(wide, wide, true, true);
        covers(wide, both(unsigned(4, MIN + 9), signed(MIN + 4, 100)), false, true);
        covers(wide, both(unsigned(5, MIN + 10), signed(MIN + 4, 100)), false, true);
        covers(wide, both(unsigned(5, MIN + 9), signed(MIN + 3, 100)), false, true);
        covers(wide, both(unsigned(5, MIN + 9), signed(MIN + 4, 101)), false, true);
        covers(wide, both(unsigned(6, MIN + 10), signed(MIN + 4, 100)), false, false);
        covers(wide, both(wide, bits(1, -2)), true, false);
        covers(both(wide, bits(1, -2)), both(wide, bits(3, -4)), true, false);
        // One knows that a bit is 0, the other that it is 1; all else is alike.
        covers(both(wide, bits(2, -4)), both(wide, bits(1, -4)), false, false);
        covers(both(wide, bits(1, -2)), both(wide, bits(0, -2)), false, false);
        covers(both(wide, bits(0, -3)), both(wide, bits(0, -2)), false, false);
        for (long c : ENDS) {
            covers(any(), exact(c), true, false);
            covers(exact(c), exact(c), true, true);
            covers(exact(c), exact(c ^ 1), false, false);
            covers(exact(c), exact(c ^ MIN), false, false);
        }
        covers(any(), any(), true, true);
        covers(any(), unsigned(1, MOST), true, false);
        covers(any(), unsigned(0, MOST - 1), true, false);
        covers(any(), signed(MIN + 1, MAX), true, false);
        covers(any(), signed(MIN, MAX - 1), true, false);
        // What is known counts, not which longs a number stands for.
        covers(sevenAlone(), exact(7), true, false);
        covers(exact(7), hollow(), false, false);
        covers(any(), hollow(), true, false);
    }

    private static void coversOfNoSuchNumbers() {
        RangeDesk desk = marked();
        for (int i : Check.WRONG_NUMBERS) {
            CHECK.throwsIndex("covers of " + i, () -> desk.covers(i, 0));
            CHECK.throwsIndex("covers of other " + i, () -> desk.covers(15, i));
            CHECK.throwsIndex("covers of both " + i, () -> desk.covers(i, i));
        }
        isStillMarked("covers of no such numbers", desk);
        CHECK.due("0 covers 0", desk.covers(0, 0), true);
        CHECK.due("15 covers 15", desk.covers(15, 15), true);
        CHECK.due("0 covers 15", desk.covers(0, 15), false);
        CHECK.due("any of 0", desk.any(0), true);
        CHECK.due("ANY covers 15", desk.covers(0, 15), true);
        CHECK.due("15 covers ANY", desk.covers(15, 0), false);
    }
}
