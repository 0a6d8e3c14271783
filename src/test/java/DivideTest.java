import java.math.BigInteger;
import java.util.ArrayList;
import java.util.List;
import java.util.Random;

/**
 * Promise 6, operation 3: DIVIDE, with bounds and divisors of every size. What is due is worked out with
 * BigInteger from the document's words, and a quotient by no division but by the products on both sides of it.
 */
public final class DivideTest {

    private static final Check CHECK = new Check();
    private static final int DIVIDE = 3;

    private static final BigInteger ZERO = BigInteger.ZERO;
    private static final BigInteger ONE = BigInteger.ONE;
    private static final BigInteger TWO_TO_63 = ONE.shiftLeft(63);
    private static final BigInteger TWO_TO_64 = ONE.shiftLeft(64);

    // Below, at and above 2^31, 2^32 and 2^63, and both ends of the unsigned longs.
    private static final long[] PLAIN = {
        0, 1, 2, 3, 7, 10, 1000, 0x7FFFFFFFL, 0x80000000L, Check.LOW - 1, Check.LOW, Check.LOW + 1,
        0x123456789ABCDEFL, 1L << 62, Check.MAX - 1, Check.MAX, Check.MIN, Check.MIN + 1,
        0xC000000000000000L, -3, -2, Check.MOST};

    private static final int DRAWN = 20_000;

    public static void main(String[] args) {
        byHand();
        everySize();
        drawn();
        otherKindsOfNumbers();
        intoItsOwnNumbers();
        wrongOnes();
        CHECK.end();
    }

    private static void byHand() {
        bounds("[100, 200] by 1", 100, 200, 1, 100, 200);
        bounds("[100, 200] by 7", 100, 200, 7, 14, 28);
        bounds("[99, 100] by 100", 99, 100, 100, 0, 1);
        bounds("[2^63 - 1, 2^63] by 1", Check.MAX, Check.MIN, 1, Check.MAX, Check.MIN);
        bounds("[2^63 - 1, 2^63] by 2", Check.MAX, Check.MIN, 2, (1L << 62) - 1, 1L << 62);
        bounds("[2^63 - 2, MOST] by 2^63 - 1", Check.MAX - 1, Check.MOST, Check.MAX, 0, 2);
        bounds("[2^63 - 1, MOST - 1] by 2^63 - 1", Check.MAX, Check.MOST - 1, Check.MAX, 1, 2);
        bounds("[2^63 - 1, MOST - 2] by 2^63 - 1", Check.MAX, Check.MOST - 2, Check.MAX, 1, 1);
        bounds("[2^63 - 1, 2^63] by 2^63", Check.MAX, Check.MIN, Check.MIN, 0, 1);
        bounds("[2^63, MOST] by 2^63", Check.MIN, Check.MOST, Check.MIN, 1, 1);
        bounds("[2^63, MOST] by MOST", Check.MIN, Check.MOST, Check.MOST, 0, 1);
        bounds("[2^63, MOST - 1] by MOST", Check.MIN, Check.MOST - 1, Check.MOST, 0, 0);
        bounds("[0, MOST] by 3", 0, Check.MOST, 3, 0, 0x5555555555555555L);
        bounds("[MOST - 1, MOST] by 3", Check.MOST - 1, Check.MOST, 3, 0x5555555555555554L, 0x5555555555555555L);
        bounds("[0, MOST] by 10", 0, Check.MOST, 10, 0, 1844674407370955161L);
        bounds("[5, MOST] by 0", 5, Check.MOST, 0, 0, 0);
    }

    private static void bounds(String what, long least, long greatest, long c, long dueLeast, long dueGreatest) {
        RangeDesk desk = new RangeDesk();
        desk.bounds(0, least, greatest, false);
        desk.exact(1, c);
        CHECK.due(what, desk.operate(2, DIVIDE, 0, 1, false), true);
        CHECK.due(what + ": least", desk.look(2, 2), dueLeast);
        CHECK.due(what + ": greatest", desk.look(2, 3), dueGreatest);
    }

    private static void everySize() {
        for (long c : PLAIN) {
            long[] ends = endsFor(c);
            for (long least : ends) {
                for (long greatest : ends) {
                    if (Long.compareUnsigned(least, greatest) <= 0) {
                        divided(least, greatest, c);
                    }
                }
            }
        }
    }

    /** The plain ones, and c and its multiples, with one more and one less. */
    private static long[] endsFor(long c) {
        List<Long> ends = new ArrayList<>();
        for (long end : PLAIN) {
            ends.add(end);
        }
        long last = c == 0 ? 0 : asLong(quotient(unsigned(Check.MOST), unsigned(c)).multiply(unsigned(c)));
        for (long near : new long[] {c, c << 1, last, last - c}) {
            ends.add(near - 1);
            ends.add(near);
            ends.add(near + 1);
        }
        return ends.stream().distinct().mapToLong(Long::longValue).toArray();
    }

    private static void drawn() {
        Random random = new Random(20261115);
        for (int i = 0; i < DRAWN; i++) {
            long c = ofAnySize(random);
            long one = ofAnySize(random);
            long other = random.nextInt(4) == 0 ? c + random.nextInt(3) - 1 : ofAnySize(random);
            boolean inOrder = Long.compareUnsigned(one, other) <= 0;
            divided(inOrder ? one : other, inOrder ? other : one, c);
        }
    }

    private static long ofAnySize(Random random) {
        return random.nextLong() >>> random.nextInt(64);
    }

    private static void divided(long least, long greatest, long c) {
        RangeDesk desk = new RangeDesk();
        desk.bounds(0, least, greatest, false);
        desk.exact(1, c);
        String what = Long.toUnsignedString(least) + " .. " + Long.toUnsignedString(greatest)
                + " by " + Long.toUnsignedString(c);

        CHECK.due(what, desk.operate(2, DIVIDE, 0, 1, false), true);
        CHECK.number(what, desk, 2, between(least, greatest, c));

        CHECK.due(what + " narrow", desk.operate(3, DIVIDE, 0, 1, true), true);
        CHECK.number(what + " narrow", desk, 3, narrowBetween(least, greatest, c));
    }

    private static long[] between(long least, long greatest, long c) {
        return settled(quotient(unsigned(least), unsigned(c)), quotient(unsigned(greatest), unsigned(c)));
    }

    private static long[] narrowBetween(long least, long greatest, long c) {
        boolean isSmall = Long.compareUnsigned(greatest, Check.LOW) <= 0;
        boolean isOneBlock = least >>> 32 == greatest >>> 32;
        long lowLeast = isSmall || isOneBlock ? least & Check.LOW : 0;
        long lowGreatest = isSmall || isOneBlock ? greatest & Check.LOW : Check.LOW;
        return between(lowLeast, lowGreatest, c & Check.LOW);
    }

    /** Found bit by bit, from the highest: the greatest q with q * c not above a; by 0 it is 0. */
    private static BigInteger quotient(BigInteger a, BigInteger c) {
        BigInteger q = ZERO;
        if (c.signum() == 0) {
            return q;
        }
        for (int bit = a.bitLength(); bit >= 0; bit--) {
            BigInteger more = q.setBit(bit);
            if (more.multiply(c).compareTo(a) <= 0) {
                q = more;
            }
        }
        return q;
    }

    /** ANY with these unsigned bounds, settled: what look tells of it, in its order. */
    private static long[] settled(BigInteger least, BigInteger greatest) {
        int open = least.xor(greatest).bitLength();
        BigInteger mask = ONE.shiftLeft(open).subtract(ONE);
        boolean oneSign = least.testBit(63) == greatest.testBit(63);
        return new long[] {
            asLong(least.andNot(mask)), asLong(mask), asLong(least), asLong(greatest),
            oneSign ? asLong(least) : Check.MIN, oneSign ? asLong(greatest) : Check.MAX};
    }

    private static void otherKindsOfNumbers() {
        for (long c : PLAIN) {
            String by = " by " + Long.toUnsignedString(c);
            for (long exact : endsFor(c)) {
                RangeDesk desk = new RangeDesk();
                desk.exact(0, exact);
                desk.exact(1, c);
                desk.operate(2, DIVIDE, 0, 1, false);
                String what = "EXACT " + Long.toUnsignedString(exact) + by;
                CHECK.exact(what, desk, 2, asLong(quotient(unsigned(exact), unsigned(c))));
            }
            RangeDesk desk = new RangeDesk();
            desk.exact(1, c);
            desk.any(0);
            desk.operate(2, DIVIDE, 0, 1, false);
            CHECK.number("ANY" + by, desk, 2, between(0, Check.MOST, c));
            desk.bits(0, 0x8000000000000005L, 0xF0L);
            desk.operate(2, DIVIDE, 0, 1, false);
            CHECK.number("bits" + by, desk, 2, between(0x8000000000000005L, 0x80000000000000F5L, c));
            desk.bounds(0, -9, -5, true);
            desk.operate(2, DIVIDE, 0, 1, false);
            CHECK.number("{-9, -5}" + by, desk, 2, between(-9, -5, c));
            desk.bounds(0, -1, 1, true);
            desk.operate(2, DIVIDE, 0, 1, false);
            CHECK.number("{-1, 1}" + by, desk, 2, between(0, Check.MOST, c));
        }
        byOneThatIsNotExact();
    }

    private static void byOneThatIsNotExact() {
        for (long greatest : PLAIN) {
            RangeDesk desk = new RangeDesk();
            desk.bounds(0, greatest == 0 ? 0 : greatest - 1, greatest, false);
            desk.bounds(1, 4, 5, false);
            desk.bounds(2, Check.MIN, Check.MOST, false);
            desk.any(3);
            for (int y = 1; y <= 3; y++) {
                desk.operate(4, DIVIDE, 0, y, false);
                String what = "greatest " + Long.toUnsignedString(greatest) + " by number " + y;
                CHECK.number(what, desk, 4, settled(ZERO, unsigned(greatest)));
            }
        }
    }

    private static void intoItsOwnNumbers() {
        for (long c : PLAIN) {
            RangeDesk desk = new RangeDesk();
            String what = Long.toUnsignedString(c);
            desk.bounds(0, Check.MAX, Check.MOST, false);
            desk.exact(1, c);
            desk.operate(0, DIVIDE, 0, 1, false);
            CHECK.number("into x by " + what, desk, 0, between(Check.MAX, Check.MOST, c));
            CHECK.exact("y behind it " + what, desk, 1, c);
            desk.bounds(0, Check.MAX, Check.MOST, false);
            desk.operate(1, DIVIDE, 0, 1, false);
            CHECK.number("into y by " + what, desk, 1, between(Check.MAX, Check.MOST, c));
            CHECK.number("x behind it " + what, desk, 0,
                    settled(TWO_TO_63.subtract(ONE), TWO_TO_64.subtract(ONE)));
            desk.exact(5, c);
            desk.operate(5, DIVIDE, 5, 5, false);
            CHECK.exact("by itself " + what, desk, 5, c == 0 ? 0 : 1);
        }
    }

    private static void wrongOnes() {
        RangeDesk desk = new RangeDesk();
        desk.exact(0, 12);
        desk.exact(1, 5);
        for (int wrong : Check.WRONG_NUMBERS) {
            CHECK.due("into " + wrong, desk.operate(wrong, DIVIDE, 0, 1, false), false);
            CHECK.due("x " + wrong, desk.operate(0, DIVIDE, wrong, 1, false), false);
            CHECK.due("y " + wrong, desk.operate(0, DIVIDE, 0, wrong, false), false);
        }
        CHECK.exact("x as it was", desk, 0, 12);
        CHECK.exact("y as it was", desk, 1, 5);
    }

    private static BigInteger unsigned(long a) {
        return a < 0 ? BigInteger.valueOf(a).add(TWO_TO_64) : BigInteger.valueOf(a);
    }

    private static long asLong(BigInteger a) {
        return a.longValue();
    }
}
