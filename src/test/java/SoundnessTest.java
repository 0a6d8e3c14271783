import java.util.Random;

/**
 * What the numbers stand for, told by longs alone: whatever x and y may be, the result of an
 * operation has what the operation makes of them, and a relation that holds of them can hold.
 */
public final class SoundnessTest {

    private static final int ROUNDS = 400_000;
    private static final int X = 4;
    private static final int Y = 5;
    private static final int R = 6;

    private static final Check CHECK = new Check();
    private static final Random RANDOM = new Random(64);

    private static long someLong() {
        switch (RANDOM.nextInt(4)) {
            case 0:
                return RANDOM.nextInt(40) - 8;
            case 1:
                return (1L << RANDOM.nextInt(64)) + RANDOM.nextInt(5) - 2;
            case 2:
                return RANDOM.nextLong() >> RANDOM.nextInt(64);
            default:
                return RANDOM.nextLong() >>> RANDOM.nextInt(64);
        }
    }

    /** Makes a number of which c is one of the longs. */
    private static void around(RangeDesk desk, int i, long c) {
        long room = RANDOM.nextLong() >>> RANDOM.nextInt(64);
        switch (RANDOM.nextInt(5)) {
            case 0:
                desk.exact(i, c);
                break;
            case 1:
                desk.bits(i, c, room);
                break;
            case 2:
                desk.bounds(i, c, Long.compareUnsigned(c + room, c) < 0 ? -1 : c + room, false);
                break;
            case 3:
                desk.bounds(i, c - room > c ? Long.MIN_VALUE : c - room, c, true);
                break;
            default:
                desk.any(i);
                break;
        }
        CHECK.due("number made around " + c + " has it", desk.has(i, c), true);
    }

    private static long made(int operation, long a, long b, boolean narrow) {
        long s = narrow ? b & 31 : b & 63;
        switch (operation) {
            case 0:
                return a + b;
            case 1:
                return a - b;
            case 2:
                return a * b;
            case 3:
                return b == 0 ? 0 : Long.divideUnsigned(a, b);
            case 4:
                return b == 0 ? a : Long.remainderUnsigned(a, b);
            case 5:
                return a & b;
            case 6:
                return a | b;
            case 7:
                return a ^ b;
            case 8:
                return a << s;
            case 9:
                return a >>> s;
            case 10:
                return narrow ? (int) a >> s : a >> s;
            case 11:
                return -a;
            case 12:
                return b;
            case 13:
                return b == 2 ? Short.reverseBytes((short) a) & 0xFFFFL
                        : b == 4 ? Integer.reverseBytes((int) a) & Check.LOW : Long.reverseBytes(a);
            default:
                return b == 2 ? a & 0xFFFFL : b == 4 ? a & Check.LOW : a;
        }
    }

    private static boolean isTrue(int relation, long a, long b, boolean narrow) {
        long ua = narrow ? a & Check.LOW : a;
        long ub = narrow ? b & Check.LOW : b;
        long sa = narrow ? (int) a : a;
        long sb = narrow ? (int) b : b;
        switch (relation) {
            case 0:
                return ua == ub;
            case 1:
                return Long.compareUnsigned(ua, ub) > 0;
            case 2:
                return Long.compareUnsigned(ua, ub) >= 0;
            case 3:
                return (ua & ub) != 0;
            case 4:
                return ua != ub;
            case 5:
                return sa > sb;
            case 6:
                return sa >= sb;
            case 7:
                return Long.compareUnsigned(ua, ub) < 0;
            case 8:
                return Long.compareUnsigned(ua, ub) <= 0;
            case 9:
                return sa < sb;
            case 10:
                return sa <= sb;
            default:
                return (ua & ub) == 0;
        }
    }

    private static void operate(RangeDesk desk, int operation, long a, long b, boolean narrow) {
        long made = made(operation, narrow ? a & Check.LOW : a, narrow ? b & Check.LOW : b, narrow);
        long due = narrow ? made & Check.LOW : made;
        String call = "operate " + operation + " of " + a + " and " + b + (narrow ? " narrow" : "");
        desk.operate(R, operation, X, Y, narrow);
        CHECK.due(call + " has " + due, desk.has(R, due), true);
    }

    private static void relate(RangeDesk desk, int relation, long a, long b, boolean narrow) {
        String call = "holds " + relation + " of " + a + " and " + b + (narrow ? " narrow" : "");
        boolean holds = desk.holds(relation, X, Y, narrow);
        if (isTrue(relation, a, b, narrow)) {
            CHECK.due(call, holds, true);
            CHECK.due(call + ", x has it still", desk.has(X, a), true);
            CHECK.due(call + ", y has it still", desk.has(Y, b), true);
        } else if (!holds) {
            CHECK.due(call + ", x is as it was", desk.has(X, a), true);
            CHECK.due(call + ", y is as it was", desk.has(Y, b), true);
        }
    }

    public static void main(String[] args) {
        for (int round = 0; round < ROUNDS; round++) {
            RangeDesk desk = new RangeDesk();
            boolean narrow = RANDOM.nextBoolean();
            int operation = RANDOM.nextInt(15);
            long a = someLong();
            long b = RANDOM.nextInt(8) == 0 ? a : someLong();
            around(desk, X, a);
            if (operation >= 13) {
                // How many bytes an operation takes is told by an EXACT number alone.
                b = 2L << RANDOM.nextInt(3);
                desk.exact(Y, b);
            } else {
                around(desk, Y, b);
            }
            operate(desk, operation, a, b, narrow);
            relate(desk, RANDOM.nextInt(12), a, b, narrow);
        }
        CHECK.end();
    }
}
