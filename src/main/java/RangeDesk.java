/**
 * Sixteen numbers of 64 bits of which not all is known: which bits, and between which bounds,
 * unsigned and signed. Every number is made with the desk and used again, as all calls share one room.
 */
public final class RangeDesk {

    private static final int NUMBERS = 16;

    private static final long MOST = -1L;
    private static final long LOW = 0xFFFFFFFFL;
    private static final long TWO_TO_31 = 0x80000000L;

    private static final int ADD = 0;
    private static final int SUBTRACT = 1;
    private static final int MULTIPLY = 2;
    private static final int DIVIDE = 3;
    private static final int REST = 4;
    private static final int AND = 5;
    private static final int OR = 6;
    private static final int XOR = 7;
    private static final int LEFT = 8;
    private static final int RIGHT = 9;
    private static final int RIGHT_SIGNED = 10;
    private static final int NEGATE = 11;
    private static final int MOVE = 12;
    private static final int SWAP = 13;
    private static final int CUT = 14;

    private static final int SAME = 0;
    private static final int ABOVE = 1;
    private static final int NOT_BELOW = 2;
    private static final int MEET = 3;
    private static final int NOT_SAME = 4;
    private static final int GREATER = 5;
    private static final int NOT_LESS = 6;
    private static final int BELOW = 7;
    private static final int NOT_ABOVE = 8;
    private static final int LESS = 9;
    private static final int NOT_GREATER = 10;
    private static final int NOT_MEET = 11;

    private final Num[] numbers = new Num[NUMBERS];
    private final Calculation calculation = new Calculation();
    private final Comparison comparison = new Comparison();

    public RangeDesk() {
        for (int i = 0; i < NUMBERS; i++) {
            numbers[i] = new Num();
        }
    }

    public boolean exact(int i, long c) {
        if (!isNumber(i)) {
            return false;
        }
        numbers[i].becomeExact(c);
        return true;
    }

    public boolean any(int i) {
        if (!isNumber(i)) {
            return false;
        }
        numbers[i].becomeAny();
        return true;
    }

    public boolean bits(int i, long value, long mask) {
        if (!isNumber(i)) {
            return false;
        }
        Num number = numbers[i];
        number.becomeAny();
        number.setBits(value & ~mask, mask);
        number.settle();
        return true;
    }

    public boolean bounds(int i, long least, long greatest, boolean signed) {
        if (!isNumber(i)) {
            return false;
        }
        if (signed ? least > greatest : isAbove(least, greatest)) {
            return false;
        }
        Num number = numbers[i];
        number.becomeAny();
        if (signed) {
            number.setSigned(least, greatest);
        } else {
            number.setUnsigned(least, greatest);
        }
        number.settle();
        return true;
    }

    public boolean operate(int into, int operation, int x, int y, boolean narrow) {
        if (!isNumber(into) || !isNumber(x) || !isNumber(y)) {
            return false;
        }
        if (operation < ADD || operation > CUT) {
            return false;
        }
        numbers[into].become(calculation.compute(operation, numbers[x], numbers[y], narrow));
        return true;
    }

    public boolean holds(int relation, int x, int y, boolean narrow) {
        if (!isNumber(x) || !isNumber(y) || x == y) {
            return false;
        }
        if (relation < SAME || relation > NOT_MEET) {
            return false;
        }
        return comparison.tell(relation, numbers[x], numbers[y], narrow);
    }

    public long look(int i, int what) throws IndexOutOfBoundsException {
        if (!isNumber(i)) {
            throw new IndexOutOfBoundsException("no such number");
        }
        Num number = numbers[i];
        switch (what) {
            case 0:
                return number.value;
            case 1:
                return number.mask;
            case 2:
                return number.least;
            case 3:
                return number.greatest;
            case 4:
                return number.signedLeast;
            case 5:
                return number.signedGreatest;
            default:
                throw new IndexOutOfBoundsException("no such what");
        }
    }

    public boolean has(int i, long c) throws IndexOutOfBoundsException {
        if (!isNumber(i)) {
            throw new IndexOutOfBoundsException("no such number");
        }
        return numbers[i].standsFor(c);
    }

    public boolean covers(int i, int other) throws IndexOutOfBoundsException {
        if (!isNumber(i) || !isNumber(other)) {
            throw new IndexOutOfBoundsException("no such number");
        }
        return numbers[i].isKnownOf(numbers[other]);
    }

    private static boolean isNumber(int i) {
        return i >= 0 && i < NUMBERS;
    }

    /** Unsigned order is signed order with the highest bit turned. */
    private static boolean isAbove(long a, long b) {
        return (a ^ Long.MIN_VALUE) > (b ^ Long.MIN_VALUE);
    }

    private static long unsignedMax(long a, long b) {
        return isAbove(a, b) ? a : b;
    }

    private static long unsignedMin(long a, long b) {
        return isAbove(a, b) ? b : a;
    }

    /** What is known of a number; a new one is EXACT 0. */
    private static final class Num {

        private static final int SETTLING_ROUNDS = 3;

        long value;
        long mask;
        long least;
        long greatest;
        long signedLeast;
        long signedGreatest;

        void becomeExact(long c) {
            setBits(c, 0L);
            setUnsigned(c, c);
            setSigned(c, c);
        }

        void becomeAny() {
            setBits(0L, MOST);
            setUnsigned(0L, MOST);
            setSigned(Long.MIN_VALUE, Long.MAX_VALUE);
        }

        void become(Num other) {
            setBits(other.value, other.mask);
            setUnsigned(other.least, other.greatest);
            setSigned(other.signedLeast, other.signedGreatest);
        }

        void setBits(long newValue, long newMask) {
            value = newValue;
            mask = newMask;
        }

        void setUnsigned(long newLeast, long newGreatest) {
            least = newLeast;
            greatest = newGreatest;
        }

        void setSigned(long newLeast, long newGreatest) {
            signedLeast = newLeast;
            signedGreatest = newGreatest;
        }

        boolean isExact() {
            return mask == 0L;
        }

        boolean isExactly(long c) {
            return mask == 0L && value == c;
        }

        long mayBeOne() {
            return value | mask;
        }

        boolean standsFor(long c) {
            return (c & ~mask) == value
                    && !isAbove(least, c) && !isAbove(c, greatest)
                    && signedLeast <= c && c <= signedGreatest;
        }

        /** Whether all that is known here is known of the other, too. */
        boolean isKnownOf(Num other) {
            return (other.mask & ~mask) == 0L
                    && (other.value & ~mask) == value
                    && !isAbove(least, other.least) && !isAbove(other.greatest, greatest)
                    && signedLeast <= other.signedLeast && other.signedGreatest <= signedGreatest;
        }

        void raiseLeast(long bound) {
            if (isAbove(bound, least)) {
                least = bound;
            }
        }

        void lowerGreatest(long bound) {
            if (isAbove(greatest, bound)) {
                greatest = bound;
            }
        }

        void raiseSignedLeast(long bound) {
            signedLeast = Math.max(signedLeast, bound);
        }

        void lowerSignedGreatest(long bound) {
            signedGreatest = Math.min(signedGreatest, bound);
        }

        void learnOnes(long places) {
            setBits(value | places, mask & ~places);
        }

        void learnZeros(long places) {
            setBits(value & ~places, mask & ~places);
        }

        /** Takes c from the ends of the bounds; false if nothing but c was left. */
        boolean exclude(long c) {
            if (isExactly(c)) {
                return false;
            }
            if (least == c) {
                least++;
            }
            if (greatest == c) {
                greatest--;
            }
            if (signedLeast == c) {
                signedLeast++;
            }
            if (signedGreatest == c) {
                signedGreatest--;
            }
            return true;
        }

        /** Brings bits and bounds together; false if the number came to be EMPTY. */
        boolean settle() {
            for (int round = 0; round < SETTLING_ROUNDS; round++) {
                boundByBits();
                if (isCrossed()) {
                    return false;
                }
                boundSignedByUnsigned();
                if (isCrossed()) {
                    return false;
                }
                boundUnsignedBySigned();
                if (isCrossed() || !learnSharedHighBits()) {
                    return false;
                }
            }
            return true;
        }

        private boolean isCrossed() {
            return isAbove(least, greatest) || signedLeast > signedGreatest;
        }

        private void boundByBits() {
            raiseLeast(value);
            lowerGreatest(mayBeOne());
        }

        private void boundSignedByUnsigned() {
            if ((least ^ greatest) >= 0L) {
                raiseSignedLeast(least);
                lowerSignedGreatest(greatest);
            }
        }

        private void boundUnsignedBySigned() {
            if ((signedLeast ^ signedGreatest) >= 0L) {
                raiseLeast(signedLeast);
                lowerGreatest(signedGreatest);
            }
        }

        /** All between the bounds have the bits above the first place in which the bounds differ. */
        private boolean learnSharedHighBits() {
            long difference = least ^ greatest;
            long open = difference == 0L ? 0L : MOST >>> Long.numberOfLeadingZeros(difference);
            if (((value ^ least) & ~mask & ~open) != 0L) {
                return false;
            }
            setBits((value & open) | (least & ~open), mask & open);
            return true;
        }

        void narrow() {
            if (!isAbove(greatest, LOW)) {
                return;
            }
            setBits(value & LOW, mask & LOW);
            if ((least >>> 32) == (greatest >>> 32)) {
                setUnsigned(least & LOW, greatest & LOW);
            } else {
                setUnsigned(0L, LOW);
            }
            setSigned(0L, LOW);
            if (!settle()) {
                setBits(0L, LOW);
                setUnsigned(0L, LOW);
                setSigned(0L, LOW);
            }
        }
    }

    /** An operation, worked out on copies, so that its result may go into one of its own numbers. */
    private static final class Calculation {

        private final Num x = new Num();
        private final Num y = new Num();
        private final Num result = new Num();

        Num compute(int operation, Num first, Num second, boolean narrow) {
            x.become(first);
            y.become(second);
            if (narrow) {
                x.narrow();
                y.narrow();
            }
            result.becomeAny();
            if (operation == LEFT || operation == RIGHT || operation == RIGHT_SIGNED) {
                shift(operation, narrow);
            } else {
                apply(operation);
            }
            if (!result.settle()) {
                result.becomeAny();
            }
            if (narrow) {
                result.narrow();
            }
            return result;
        }

        private void apply(int operation) {
            switch (operation) {
                case ADD:
                    add();
                    break;
                case SUBTRACT:
                    subtract();
                    break;
                case MULTIPLY:
                    multiply();
                    break;
                case DIVIDE:
                    divide();
                    break;
                case REST:
                    rest();
                    break;
                case AND:
                    and();
                    break;
                case OR:
                    or();
                    break;
                case XOR:
                    xor();
                    break;
                case NEGATE:
                    negate();
                    break;
                case MOVE:
                    result.become(y);
                    break;
                case SWAP:
                    swap(byteCount());
                    break;
                case CUT:
                    cut(byteCount());
                    break;
                default:
                    break;
            }
        }

        private void add() {
            long sum = x.value + y.value;
            long unknown = ((x.mask + y.mask + sum) ^ sum) | x.mask | y.mask;
            result.setBits(sum & ~unknown, unknown);

            long greatest = x.greatest + y.greatest;
            if (!isAbove(x.greatest, greatest)) {
                result.setUnsigned(x.least + y.least, greatest);
            }
            if (!sumOverflows(x.signedLeast, y.signedLeast)
                    && !sumOverflows(x.signedGreatest, y.signedGreatest)) {
                result.setSigned(x.signedLeast + y.signedLeast, x.signedGreatest + y.signedGreatest);
            }
        }

        private void subtract() {
            long difference = x.value - y.value;
            long unknown = ((difference + x.mask) ^ (difference - y.mask)) | x.mask | y.mask;
            result.setBits(difference & ~unknown, unknown);

            if (!isAbove(y.greatest, x.least)) {
                result.setUnsigned(x.least - y.greatest, x.greatest - y.least);
            }
            if (!differenceOverflows(x.signedLeast, y.signedGreatest)
                    && !differenceOverflows(x.signedGreatest, y.signedLeast)) {
                result.setSigned(x.signedLeast - y.signedGreatest, x.signedGreatest - y.signedLeast);
            }
        }

        private void multiply() {
            if (x.isExact() && y.isExact()) {
                result.becomeExact(x.value * y.value);
                return;
            }
            int zeros = Long.numberOfTrailingZeros(x.mayBeOne())
                    + Long.numberOfTrailingZeros(y.mayBeOne());
            // A shift by 64 would be one by 0.
            result.setBits(0L, zeros >= 64 ? 0L : MOST << zeros);
            if (!isAbove(x.greatest, LOW) && !isAbove(y.greatest, LOW)) {
                result.setUnsigned(x.least * y.least, x.greatest * y.greatest);
            }
        }

        private void divide() {
            if (!y.isExact()) {
                result.setUnsigned(0L, x.greatest);
            } else {
                // By EXACT 0 this is [0, 0], which settles to EXACT 0.
                result.setUnsigned(quotient(x.least, y.value), quotient(x.greatest, y.value));
            }
        }

        private void rest() {
            if (!y.isExact()) {
                result.setUnsigned(0L, x.greatest);
            } else if (y.value == 0L || isAbove(y.value, x.greatest)) {
                result.become(x);
            } else {
                result.setUnsigned(0L, y.value - 1L);
            }
        }

        private void and() {
            long value = x.value & y.value;
            result.setBits(value, x.mayBeOne() & y.mayBeOne() & ~value);
            result.setUnsigned(0L, unsignedMin(x.greatest, y.greatest));
        }

        private void or() {
            long value = x.value | y.value;
            result.setBits(value, (x.mask | y.mask) & ~value);
            result.setUnsigned(unsignedMax(x.least, y.least), MOST);
        }

        private void xor() {
            long unknown = x.mask | y.mask;
            result.setBits((x.value ^ y.value) & ~unknown, unknown);
        }

        private void shift(int operation, boolean narrow) {
            if (!y.isExact()) {
                return;
            }
            int places = (int) (y.value & (narrow ? 31L : 63L));
            if (operation == LEFT) {
                shiftLeft(places);
            } else if (operation == RIGHT) {
                shiftRight(places);
            } else if (!narrow) {
                shiftRightSigned(places);
            } else if (isAbove(TWO_TO_31, x.greatest)) {
                shiftRight(places);
            }
        }

        private void shiftLeft(int places) {
            result.setBits(x.value << places, x.mask << places);
            if (x.greatest << places >>> places == x.greatest) {
                result.setUnsigned(x.least << places, x.greatest << places);
            }
        }

        private void shiftRight(int places) {
            result.setBits(x.value >>> places, x.mask >>> places);
            result.setUnsigned(x.least >>> places, x.greatest >>> places);
        }

        private void shiftRightSigned(int places) {
            result.setBits(x.value >> places, x.mask >> places);
            result.setSigned(x.signedLeast >> places, x.signedGreatest >> places);
        }

        private void negate() {
            y.become(x);
            x.becomeExact(0L);
            subtract();
        }

        private void swap(int bytes) {
            if (x.isExact()) {
                result.becomeExact(Long.reverseBytes(x.value) >>> (64 - 8 * bytes));
            } else {
                result.setUnsigned(0L, greatestOf(bytes));
            }
        }

        private void cut(int bytes) {
            if (!isAbove(x.greatest, greatestOf(bytes))) {
                result.become(x);
            } else {
                y.becomeExact(greatestOf(bytes));
                and();
            }
        }

        private int byteCount() {
            if (y.isExactly(2L)) {
                return 2;
            }
            return y.isExactly(4L) ? 4 : 8;
        }

        private static long greatestOf(int bytes) {
            return MOST >>> (64 - 8 * bytes);
        }

        /** Of unsigned longs; by 0 it is 0. Java's own division takes those from 2^63 on as negative. */
        private static long quotient(long a, long divisor) {
            if (divisor == 0L) {
                return 0L;
            }
            if (divisor < 0L) {
                // It is 2^63 or more, and goes into a once at most.
                return isAbove(divisor, a) ? 0L : 1L;
            }
            // Half of a is never negative; what twice its quotient leaves of a is below two divisors.
            long even = (a >>> 1) / divisor << 1;
            return isAbove(divisor, a - even * divisor) ? even : even + 1L;
        }

        private static boolean sumOverflows(long a, long b) {
            long sum = a + b;
            return ((a ^ sum) & (b ^ sum)) < 0L;
        }

        private static boolean differenceOverflows(long a, long b) {
            return ((a ^ b) & (a ^ (a - b))) < 0L;
        }
    }

    /** What a relation tells, worked out on copies, as both stay as they were if it can't hold. */
    private static final class Comparison {

        private final Num x = new Num();
        private final Num y = new Num();

        /** Brings what the relation tells to both; false if it can't hold. */
        boolean tell(int relation, Num first, Num second, boolean narrow) {
            x.become(first);
            y.become(second);
            boolean whole = !narrow || fitsNarrow(relation);
            if (!whole) {
                if (isSigned(relation)) {
                    return true;
                }
                x.narrow();
                y.narrow();
            }
            if (!learn(relation)) {
                return false;
            }
            // Of the lowest 32 bits alone nothing comes to the whole numbers.
            if (whole) {
                first.become(x);
                second.become(y);
            }
            return true;
        }

        private boolean learn(int relation) {
            return apply(relation) && x.settle() && y.settle();
        }

        private boolean apply(int relation) {
            switch (relation) {
                case SAME:
                    return same();
                case ABOVE:
                    return above(x, y);
                case NOT_BELOW:
                    return notBelow(x, y);
                case MEET:
                    return meet();
                case NOT_SAME:
                    return notSame();
                case GREATER:
                    return greater(x, y);
                case NOT_LESS:
                    return notLess(x, y);
                case BELOW:
                    return above(y, x);
                case NOT_ABOVE:
                    return notBelow(y, x);
                case LESS:
                    return greater(y, x);
                case NOT_GREATER:
                    return notLess(y, x);
                case NOT_MEET:
                    return notMeet();
                default:
                    return false;
            }
        }

        private static boolean above(Num more, Num fewer) {
            if (fewer.least == MOST || more.greatest == 0L) {
                return false;
            }
            more.raiseLeast(fewer.least + 1L);
            fewer.lowerGreatest(more.greatest - 1L);
            return true;
        }

        private static boolean notBelow(Num more, Num fewer) {
            more.raiseLeast(fewer.least);
            fewer.lowerGreatest(more.greatest);
            return true;
        }

        private static boolean greater(Num more, Num fewer) {
            if (fewer.signedLeast == Long.MAX_VALUE || more.signedGreatest == Long.MIN_VALUE) {
                return false;
            }
            more.raiseSignedLeast(fewer.signedLeast + 1L);
            fewer.lowerSignedGreatest(more.signedGreatest - 1L);
            return true;
        }

        private static boolean notLess(Num more, Num fewer) {
            more.raiseSignedLeast(fewer.signedLeast);
            fewer.lowerSignedGreatest(more.signedGreatest);
            return true;
        }

        private boolean same() {
            if (((x.value ^ y.value) & ~(x.mask | y.mask)) != 0L) {
                return false;
            }
            x.setBits(x.value | y.value, x.mask & y.mask);
            x.raiseLeast(y.least);
            x.lowerGreatest(y.greatest);
            x.raiseSignedLeast(y.signedLeast);
            x.lowerSignedGreatest(y.signedGreatest);
            y.become(x);
            return true;
        }

        private boolean notSame() {
            boolean xWasExact = x.isExact();
            long xWas = x.value;
            if (y.isExact() && !x.exclude(y.value)) {
                return false;
            }
            return !xWasExact || y.exclude(xWas);
        }

        private boolean meet() {
            if ((x.mayBeOne() & y.mayBeOne()) == 0L) {
                return false;
            }
            boolean xWasOneBit = isOneBit(x);
            long xWas = x.value;
            if (isOneBit(y)) {
                x.learnOnes(y.value);
            }
            if (xWasOneBit) {
                y.learnOnes(xWas);
            }
            return true;
        }

        private boolean notMeet() {
            if ((x.value & y.value) != 0L) {
                return false;
            }
            boolean xWasExact = x.isExact();
            long xWas = x.value;
            if (y.isExact()) {
                x.learnZeros(y.value);
            }
            if (xWasExact) {
                y.learnZeros(xWas);
            }
            return true;
        }

        private static boolean isOneBit(Num number) {
            return number.isExact() && Long.bitCount(number.value) == 1;
        }

        private static boolean isSigned(int relation) {
            return relation == GREATER || relation == NOT_LESS
                    || relation == LESS || relation == NOT_GREATER;
        }

        /** Whether the lowest 32 bits of both compare as the whole numbers do. */
        private boolean fitsNarrow(int relation) {
            long limit = isSigned(relation) ? TWO_TO_31 - 1L : LOW;
            return !isAbove(x.greatest, limit) && !isAbove(y.greatest, limit);
        }
    }
}
