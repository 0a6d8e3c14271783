import java.math.BigInteger;
import java.util.Arrays;
import java.util.Random;

/** Long runs of calls beside a second reading of the document, written with BigInteger. */
public final class ModelTest {

    private static final BigInteger ZERO = BigInteger.ZERO;
    private static final BigInteger ONE = BigInteger.ONE;
    private static final BigInteger ALL = ONE.shiftLeft(64);
    private static final BigInteger MOST = ALL.subtract(ONE);
    private static final BigInteger LOW = ONE.shiftLeft(32).subtract(ONE);
    private static final BigInteger LEAST_LONG = ONE.shiftLeft(63).negate();
    private static final BigInteger GREATEST_LONG = ONE.shiftLeft(63).subtract(ONE);

    private static final int RUNS = 100_000;
    // The dearest step is 47 calls, and nothing is promised beyond 512 of them.
    private static final int STEPS = 10;

    private static final Check CHECK = new Check();
    private static final Random RANDOM = new Random(20261115);

    // How often the rare turns were taken: a run that never takes one would test nothing of it.
    private static int emptyResults;
    private static int thirdRounds;
    private static int emptyRelations;

    /** A number's bits are '0', '1' or '?', the lowest one first. */
    private static final class Model {
        char[] bits = new char[64];
        BigInteger ul;
        BigInteger ug;
        BigInteger sl;
        BigInteger sg;

        static Model any() {
            Model m = new Model();
            Arrays.fill(m.bits, '?');
            m.ul = ZERO;
            m.ug = MOST;
            m.sl = LEAST_LONG;
            m.sg = GREATEST_LONG;
            return m;
        }

        static Model exact(long c) {
            Model m = any();
            m.setBits(c, 0);
            m.ul = unsigned(c);
            m.ug = m.ul;
            m.sl = BigInteger.valueOf(c);
            m.sg = m.sl;
            return m;
        }

        Model copy() {
            Model m = new Model();
            m.bits = bits.clone();
            m.ul = ul;
            m.ug = ug;
            m.sl = sl;
            m.sg = sg;
            return m;
        }

        void setBits(long value, long mask) {
            for (int i = 0; i < 64; i++) {
                bits[i] = (mask >>> i & 1) == 1 ? '?' : (value >>> i & 1) == 1 ? '1' : '0';
            }
        }

        long value() {
            return places('1', '1');
        }

        long mask() {
            return places('?', '?');
        }

        long mayBeOne() {
            return places('1', '?');
        }

        private long places(char a, char b) {
            long places = 0;
            for (int i = 0; i < 64; i++) {
                if (bits[i] == a || bits[i] == b) {
                    places |= 1L << i;
                }
            }
            return places;
        }

        boolean isExact() {
            return mask() == 0;
        }

        long[] all() {
            return new long[] {
                value(), mask(), ul.longValue(), ug.longValue(), sl.longValue(), sg.longValue()};
        }

        boolean crossed() {
            return ul.compareTo(ug) > 0 || sl.compareTo(sg) > 0;
        }

        boolean settle() {
            for (int round = 1; round <= 3; round++) {
                long[] ahead = all();
                ul = ul.max(unsigned(value()));
                ug = ug.min(unsigned(mayBeOne()));
                if (crossed()) {
                    return false;
                }
                if (ul.testBit(63) == ug.testBit(63)) {
                    sl = sl.max(signed(ul));
                    sg = sg.min(signed(ug));
                }
                if (crossed()) {
                    return false;
                }
                if ((sl.signum() < 0) == (sg.signum() < 0)) {
                    ul = ul.max(sl.mod(ALL));
                    ug = ug.min(sg.mod(ALL));
                }
                if (crossed()) {
                    return false;
                }
                int open = ul.xor(ug).bitLength();
                for (int i = open; i < 64; i++) {
                    char bit = ul.testBit(i) ? '1' : '0';
                    if (bits[i] != '?' && bits[i] != bit) {
                        return false;
                    }
                    bits[i] = bit;
                }
                if (round == 3 && !Arrays.equals(ahead, all())) {
                    thirdRounds++;
                }
            }
            return true;
        }

        Model narrowed() {
            if (ug.compareTo(LOW) <= 0) {
                return this;
            }
            Model m = copy();
            for (int i = 32; i < 64; i++) {
                m.bits[i] = '0';
            }
            boolean sameHigh = ul.shiftRight(32).equals(ug.shiftRight(32));
            m.ul = sameHigh ? ul.and(LOW) : ZERO;
            m.ug = sameHigh ? ug.and(LOW) : LOW;
            m.sl = ZERO;
            m.sg = LOW;
            if (!m.settle()) {
                m.setBits(0, Check.LOW);
                m.ul = ZERO;
                m.ug = LOW;
                m.sl = ZERO;
                m.sg = LOW;
            }
            return m;
        }
    }

    private static BigInteger unsigned(long c) {
        return BigInteger.valueOf(c).mod(ALL);
    }

    private static BigInteger signed(BigInteger c) {
        return BigInteger.valueOf(c.longValue());
    }

    private static boolean isLong(BigInteger c) {
        return c.compareTo(LEAST_LONG) >= 0 && c.compareTo(GREATEST_LONG) <= 0;
    }

    private static Model operate(int operation, Model first, Model second, boolean narrow) {
        Model x = narrow ? first.narrowed() : first;
        Model y = narrow ? second.narrowed() : second;
        Model r = raw(operation, x, y, narrow).copy();
        if (!r.settle()) {
            emptyResults++;
            r = Model.any();
        }
        return narrow ? r.narrowed() : r;
    }

    private static Model raw(int operation, Model x, Model y, boolean narrow) {
        Model r = Model.any();
        boolean known = y.isExact();
        long c = y.value();
        BigInteger uc = unsigned(c);
        switch (operation) {
            case 0: {
                long s = x.mask() + y.mask();
                long t = x.value() + y.value();
                long u = ((s + t) ^ t) | x.mask() | y.mask();
                r.setBits(t & ~u, u);
                if (x.ug.add(y.ug).compareTo(MOST) <= 0) {
                    r.ul = x.ul.add(y.ul);
                    r.ug = x.ug.add(y.ug);
                }
                signedIfLongs(r, x.sl.add(y.sl), x.sg.add(y.sg));
                return r;
            }
            case 1: {
                long t = x.value() - y.value();
                long u = ((t + x.mask()) ^ (t - y.mask())) | x.mask() | y.mask();
                r.setBits(t & ~u, u);
                if (x.ul.compareTo(y.ug) >= 0) {
                    r.ul = x.ul.subtract(y.ug);
                    r.ug = x.ug.subtract(y.ul);
                }
                signedIfLongs(r, x.sl.subtract(y.sg), x.sg.subtract(y.sl));
                return r;
            }
            case 2:
                if (x.isExact() && known) {
                    return Model.exact(unsigned(x.value()).multiply(uc).longValue());
                }
                for (int i = 0; i < Math.min(64, lowZeros(x) + lowZeros(y)); i++) {
                    r.bits[i] = '0';
                }
                if (x.ug.compareTo(LOW) <= 0 && y.ug.compareTo(LOW) <= 0) {
                    r.ul = x.ul.multiply(y.ul);
                    r.ug = x.ug.multiply(y.ug);
                }
                return r;
            case 3:
                if (known && c == 0) {
                    return Model.exact(0);
                }
                r.ul = known ? x.ul.divide(uc) : ZERO;
                r.ug = known ? x.ug.divide(uc) : x.ug;
                return r;
            case 4:
                if (known && (c == 0 || x.ug.compareTo(uc) < 0)) {
                    return x;
                }
                r.ug = known ? uc.subtract(ONE) : x.ug;
                return r;
            case 5:
                return and(x, y);
            case 6:
                for (int i = 0; i < 64; i++) {
                    r.bits[i] = x.bits[i] == '1' || y.bits[i] == '1' ? '1'
                            : x.bits[i] == '0' && y.bits[i] == '0' ? '0' : '?';
                }
                r.ul = x.ul.max(y.ul);
                return r;
            case 7:
                for (int i = 0; i < 64; i++) {
                    r.bits[i] = x.bits[i] == '?' || y.bits[i] == '?' ? '?'
                            : x.bits[i] == y.bits[i] ? '0' : '1';
                }
                return r;
            case 8:
            case 9:
            case 10:
                return shifted(operation, x, y, narrow);
            case 11:
                return raw(1, Model.exact(0), x, narrow);
            case 12:
                return y;
            case 13: {
                int bytes = bytes(y);
                if (!x.isExact()) {
                    r.ug = ONE.shiftLeft(8 * bytes).subtract(ONE);
                    return r;
                }
                long swapped = 0;
                for (int i = 0; i < bytes; i++) {
                    swapped = swapped << 8 | (x.value() >>> 8 * i & 255);
                }
                return Model.exact(swapped);
            }
            default: {
                int bytes = bytes(y);
                BigInteger greatest = ONE.shiftLeft(8 * bytes).subtract(ONE);
                if (bytes == 8 || x.ug.compareTo(greatest) <= 0) {
                    return x;
                }
                return and(x, Model.exact(greatest.longValue()));
            }
        }
    }

    private static void signedIfLongs(Model r, BigInteger least, BigInteger greatest) {
        if (isLong(least) && isLong(greatest)) {
            r.sl = least;
            r.sg = greatest;
        }
    }

    private static int lowZeros(Model m) {
        int zeros = 0;
        while (zeros < 64 && m.bits[zeros] == '0') {
            zeros++;
        }
        return zeros;
    }

    private static Model and(Model x, Model y) {
        Model r = Model.any();
        for (int i = 0; i < 64; i++) {
            r.bits[i] = x.bits[i] == '0' || y.bits[i] == '0' ? '0'
                    : x.bits[i] == '1' && y.bits[i] == '1' ? '1' : '?';
        }
        r.ug = x.ug.min(y.ug);
        return r;
    }

    private static Model shifted(int operation, Model x, Model y, boolean narrow) {
        Model r = Model.any();
        if (!y.isExact()) {
            return r;
        }
        if (operation == 10 && narrow) {
            return x.ug.compareTo(ONE.shiftLeft(31)) < 0 ? shifted(9, x, y, true) : r;
        }
        int s = (int) Math.floorMod(y.value(), narrow ? 32L : 64L);
        for (int i = 0; i < 64; i++) {
            int from = operation == 8 ? i - s : i + s;
            r.bits[i] = from >= 0 && from < 64 ? x.bits[from] : operation == 10 ? x.bits[63] : '0';
        }
        if (operation == 8 && x.ug.bitLength() <= 64 - s) {
            r.ul = x.ul.shiftLeft(s);
            r.ug = x.ug.shiftLeft(s);
        } else if (operation == 9) {
            r.ul = x.ul.shiftRight(s);
            r.ug = x.ug.shiftRight(s);
        } else if (operation == 10) {
            r.sl = x.sl.shiftRight(s);
            r.sg = x.sg.shiftRight(s);
        }
        return r;
    }

    private static int bytes(Model y) {
        return y.isExact() && (y.value() == 2 || y.value() == 4) ? (int) y.value() : 8;
    }

    /** Null if it can't hold, else what x and y become. */
    private static Model[] holds(int relation, Model x, Model y, boolean narrow) {
        boolean signed = relation == 5 || relation == 6 || relation == 9 || relation == 10;
        int narrowBits = signed ? 31 : 32;
        if (narrow && Math.max(x.ug.bitLength(), y.ug.bitLength()) > narrowBits) {
            boolean can = signed || told(relation, x.narrowed(), y.narrowed()) != null;
            return can ? new Model[] {x, y} : null;
        }
        return told(relation, x, y);
    }

    private static Model[] told(int relation, Model first, Model second) {
        Model x = first.copy();
        Model y = second.copy();
        if (!tell(relation, x, y) || !x.settle() || !y.settle()) {
            emptyRelations++;
            return null;
        }
        return new Model[] {x, y};
    }

    private static boolean tell(int relation, Model x, Model y) {
        boolean xWasExact = x.isExact();
        long xWas = x.value();
        switch (relation) {
            case 0:
                return same(x, y);
            case 1:
            case 2:
                x.ul = x.ul.max(relation == 1 ? y.ul.add(ONE) : y.ul);
                y.ug = y.ug.min(relation == 1 ? x.ug.subtract(ONE) : x.ug);
                return x.ul.compareTo(MOST) <= 0 && y.ug.signum() >= 0;
            case 3:
                if ((x.mayBeOne() & y.mayBeOne()) == 0) {
                    return false;
                }
                if (y.isExact() && Long.bitCount(y.value()) == 1) {
                    x.bits[Long.numberOfTrailingZeros(y.value())] = '1';
                }
                if (xWasExact && Long.bitCount(xWas) == 1) {
                    y.bits[Long.numberOfTrailingZeros(xWas)] = '1';
                }
                return true;
            case 4:
                return (!y.isExact() || without(x, y.value())) && (!xWasExact || without(y, xWas));
            case 5:
            case 6:
                x.sl = x.sl.max(relation == 5 ? y.sl.add(ONE) : y.sl);
                y.sg = y.sg.min(relation == 5 ? x.sg.subtract(ONE) : x.sg);
                return isLong(x.sl) && isLong(y.sg);
            case 7:
            case 8:
                return tell(relation - 6, y, x);
            case 9:
            case 10:
                return tell(relation - 4, y, x);
            default:
                return notMeet(x, y);
        }
    }

    private static boolean same(Model x, Model y) {
        for (int i = 0; i < 64; i++) {
            char a = x.bits[i];
            char b = y.bits[i];
            if (a != '?' && b != '?' && a != b) {
                return false;
            }
            x.bits[i] = a == '?' ? b : a;
            y.bits[i] = x.bits[i];
        }
        x.ul = x.ul.max(y.ul);
        x.ug = x.ug.min(y.ug);
        x.sl = x.sl.max(y.sl);
        x.sg = x.sg.min(y.sg);
        y.ul = x.ul;
        y.ug = x.ug;
        y.sl = x.sl;
        y.sg = x.sg;
        return true;
    }

    private static boolean without(Model m, long c) {
        if (m.isExact() && m.value() == c) {
            return false;
        }
        m.ul = m.ul.equals(unsigned(c)) ? m.ul.add(ONE) : m.ul;
        m.ug = m.ug.equals(unsigned(c)) ? m.ug.subtract(ONE) : m.ug;
        m.sl = m.sl.equals(BigInteger.valueOf(c)) ? m.sl.add(ONE) : m.sl;
        m.sg = m.sg.equals(BigInteger.valueOf(c)) ? m.sg.subtract(ONE) : m.sg;
        return true;
    }

    private static boolean notMeet(Model x, Model y) {
        boolean xWasExact = x.isExact();
        boolean yIsExact = y.isExact();
        for (int i = 0; i < 64; i++) {
            if (x.bits[i] == '1' && y.bits[i] == '1') {
                return false;
            }
            char a = x.bits[i];
            if (yIsExact && y.bits[i] == '1') {
                x.bits[i] = '0';
            }
            if (xWasExact && a == '1') {
                y.bits[i] = '0';
            }
        }
        return true;
    }

    private static boolean covers(Model a, Model b) {
        for (int i = 0; i < 64; i++) {
            if (a.bits[i] != '?' && a.bits[i] != b.bits[i]) {
                return false;
            }
        }
        return a.ul.compareTo(b.ul) <= 0 && a.ug.compareTo(b.ug) >= 0
                && a.sl.compareTo(b.sl) <= 0 && a.sg.compareTo(b.sg) >= 0;
    }

    private static boolean has(Model m, long c) {
        for (int i = 0; i < 64; i++) {
            if (m.bits[i] != '?' && (m.bits[i] == '1') != ((c >>> i & 1) == 1)) {
                return false;
            }
        }
        BigInteger u = unsigned(c);
        BigInteger s = BigInteger.valueOf(c);
        return m.ul.compareTo(u) <= 0 && m.ug.compareTo(u) >= 0
                && m.sl.compareTo(s) <= 0 && m.sg.compareTo(s) >= 0;
    }

    /** Longs near the places where something turns: 0, the powers of two, both ends. */
    private static long someLong() {
        switch (RANDOM.nextInt(7)) {
            case 0:
                return RANDOM.nextInt(20);
            case 1:
                return -RANDOM.nextInt(20);
            case 2:
                return (1L << RANDOM.nextInt(64)) + RANDOM.nextInt(5) - 2;
            case 3:
                return RANDOM.nextLong() >>> RANDOM.nextInt(64);
            case 4:
                return RANDOM.nextLong() >> RANDOM.nextInt(64);
            case 5:
                return (RANDOM.nextBoolean() ? Check.LOW : 0x80000000L) + RANDOM.nextInt(5) - 2;
            default:
                return (RANDOM.nextBoolean() ? Check.MIN : Check.MAX) + RANDOM.nextInt(5) - 2;
        }
    }

    private static long someMask() {
        switch (RANDOM.nextInt(4)) {
            case 0:
                return someLong();
            case 1:
                return RANDOM.nextLong() & RANDOM.nextLong() & RANDOM.nextLong();
            case 2:
                return RANDOM.nextInt(64);
            default:
                return RANDOM.nextLong() | RANDOM.nextLong();
        }
    }

    /** Small fields of bits and bounds within few places, so that they often cross. */
    private static long smallLong() {
        return RANDOM.nextInt(64) - (RANDOM.nextInt(4) == 0 ? 32 : 0);
    }

    private final RangeDesk desk = new RangeDesk();
    private final Model[] models = new Model[Check.NUMBERS];
    private final boolean small = RANDOM.nextBoolean();

    private ModelTest() {
        for (int i = 0; i < models.length; i++) {
            models[i] = Model.exact(0);
        }
    }

    private long argument() {
        return small ? smallLong() : someLong();
    }

    private void step(int numbers) {
        int i = RANDOM.nextInt(numbers);
        int x = RANDOM.nextInt(numbers);
        int y = RANDOM.nextInt(numbers);
        boolean narrow = RANDOM.nextInt(3) == 0;
        switch (RANDOM.nextInt(12)) {
            case 0:
                stepExact(i);
                break;
            case 1:
                stepBits(i);
                break;
            case 2:
            case 3:
                stepBounds(i, RANDOM.nextBoolean());
                break;
            case 4:
            case 5:
            case 6:
            case 7:
                stepOperate(i, RANDOM.nextInt(15), x, y, narrow);
                break;
            case 8:
                stepAsk(i, x);
                break;
            case 9:
                stepHollow(i, x, y, narrow);
                break;
            case 10:
                stepSqueeze(x, y);
                break;
            default:
                stepHolds(RANDOM.nextInt(12), x, y, narrow);
                break;
        }
    }

    private void stepExact(int i) {
        long c = RANDOM.nextInt(3) == 0 ? RANDOM.nextInt(9) : argument();
        boolean any = RANDOM.nextInt(6) == 0;
        CHECK.due("exact or any", any ? desk.any(i) : desk.exact(i, c), true);
        models[i] = any ? Model.any() : Model.exact(c);
        compare(any ? "any" : "exact", i);
    }

    private void stepBits(int i) {
        long value = argument();
        long mask = small ? RANDOM.nextInt(64) : someMask();
        CHECK.due("bits", desk.bits(i, value, mask), true);
        models[i] = Model.any();
        models[i].setBits(value, mask);
        CHECK.due("settling bits is never EMPTY", models[i].settle(), true);
        compare("bits", i);
    }

    private void stepBounds(int i, boolean signed) {
        long least = argument();
        long greatest = RANDOM.nextBoolean() ? argument() : least + RANDOM.nextInt(40);
        BigInteger l = signed ? BigInteger.valueOf(least) : unsigned(least);
        BigInteger g = signed ? BigInteger.valueOf(greatest) : unsigned(greatest);
        boolean can = l.compareTo(g) <= 0;
        CHECK.due("bounds", desk.bounds(i, least, greatest, signed), can);
        if (can) {
            Model m = Model.any();
            m.ul = signed ? m.ul : l;
            m.ug = signed ? m.ug : g;
            m.sl = signed ? l : m.sl;
            m.sg = signed ? g : m.sg;
            CHECK.due("settling bounds is never EMPTY", m.settle(), true);
            models[i] = m;
        }
        compare("bounds", i);
    }

    private void stepOperate(int into, int operation, int x, int y, boolean narrow) {
        String call = "operate " + operation + (narrow ? " narrow of " : " of ")
                + Check.text(models[x].all()) + " and " + Check.text(models[y].all());
        models[into] = operate(operation, models[x], models[y], narrow);
        CHECK.due(call, desk.operate(into, operation, x, y, narrow), true);
        compare(call, into);
    }

    private void stepHolds(int relation, int x, int y, boolean narrow) {
        String call = "holds " + relation + (narrow ? " narrow of " : " of ")
                + Check.text(models[x].all()) + " and " + Check.text(models[y].all());
        Model[] told = x == y ? null : holds(relation, models[x], models[y], narrow);
        CHECK.due(call, desk.holds(relation, x, y, narrow), told != null);
        if (told != null) {
            models[x] = told[0];
            models[y] = told[1];
        }
        compare(call, x);
        compare(call, y);
    }

    /** Bits and bounds that often agree on no long at all, though settling can't see it. */
    private void stepHollow(int into, int x, int y, boolean narrow) {
        stepBits(x);
        stepBounds(y, RANDOM.nextBoolean());
        stepHolds(0, x, y, false);
        if (RANDOM.nextBoolean()) {
            stepExact(y);
        }
        stepOperate(into, RANDOM.nextInt(15), x, y, narrow);
    }

    /** Bounds that come to bits one by one, so that settling has to go around more than once. */
    private void stepSqueeze(int x, int y) {
        stepBits(x);
        for (int bound = 0; bound < 2; bound++) {
            if (x != y) {
                stepExact(y);
            }
            stepHolds(RANDOM.nextInt(12), x, y, false);
        }
    }

    private void stepAsk(int i, int other) {
        long c = argument();
        CHECK.due("has " + c, desk.has(i, c), has(models[i], c));
        c = models[i].ul.longValue();
        CHECK.due("has the least " + c, desk.has(i, c), has(models[i], c));
        CHECK.due("covers " + Check.text(models[i].all()) + " and " + Check.text(models[other].all()),
                desk.covers(i, other), covers(models[i], models[other]));
    }

    private void compare(String call, int i) {
        CHECK.number(call, desk, i, models[i].all());
    }

    public static void main(String[] args) {
        for (int run = 0; run < RUNS; run++) {
            ModelTest test = new ModelTest();
            int numbers = 2 + RANDOM.nextInt(5);
            for (int step = 0; step < STEPS; step++) {
                test.step(numbers);
            }
        }
        System.out.println("EMPTY results " + emptyResults + ", relations that can't hold "
                + emptyRelations + ", third rounds of settling " + thirdRounds);
        CHECK.due("third rounds of settling were met", thirdRounds > 0, true);
        CHECK.due("EMPTY results were met", emptyResults > 0, true);
        CHECK.due("relations that can't hold were met", emptyRelations > 0, true);
        CHECK.end();
    }
}
