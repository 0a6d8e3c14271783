/** What the tests by hand share: how numbers are set, and what a call on them is held to. */
abstract class ByHand {

    static final long MOST = Check.MOST;
    static final long LOW = Check.LOW;
    static final long MIN = Check.MIN;
    static final long MAX = Check.MAX;
    static final long TWO_31 = 1L << 31;
    static final long TWO_32 = 1L << 32;

    static final int X = 1;
    static final int Y = 2;
    static final int R = 3;
    private static final int SPARE = 4;

    static final Check CHECK = new Check();

    /** A way to set a number. */
    interface Setting {
        boolean put(RangeDesk desk, int i);
    }

    static Setting exact(long c) {
        return (desk, i) -> desk.exact(i, c);
    }

    static Setting any() {
        return (desk, i) -> desk.any(i);
    }

    static Setting bits(long value, long mask) {
        return (desk, i) -> desk.bits(i, value, mask);
    }

    static Setting unsigned(long least, long greatest) {
        return (desk, i) -> desk.bounds(i, least, greatest, false);
    }

    static Setting signed(long least, long greatest) {
        return (desk, i) -> desk.bounds(i, least, greatest, true);
    }

    /** What is known of one and of the other, brought together by SAME. */
    static Setting both(Setting one, Setting other) {
        return (desk, i) -> one.put(desk, i) && other.put(desk, SPARE) && desk.holds(0, i, SPARE, false);
    }

    /** Its bits allow 2, 3, 10, 11 and its bounds 4 .. 9, so that it stands for no long at all. */
    static Setting hollow() {
        return both(bits(2, 9), unsigned(4, 9));
    }

    /** Its bits allow 7 and 15 and its bounds 7 .. 14: it stands for 7 alone, and is not EXACT. */
    static Setting sevenAlone() {
        return both(bits(7, 8), unsigned(0, 14));
    }

    static void set(RangeDesk desk, int i, Setting how) {
        CHECK.due("setting number " + i, how.put(desk, i), true);
    }

    static RangeDesk desk(Setting x, Setting y) {
        RangeDesk desk = new RangeDesk();
        set(desk, X, x);
        set(desk, Y, y);
        return desk;
    }

    /** A desk of which each number can be told from all the others. */
    static RangeDesk marked() {
        RangeDesk desk = new RangeDesk();
        for (int i = 0; i < Check.NUMBERS; i++) {
            set(desk, i, exact(100 + i));
        }
        return desk;
    }

    static void isStillMarked(String after, RangeDesk desk) {
        for (int i = 0; i < Check.NUMBERS; i++) {
            CHECK.exact("after " + after, desk, i, 100 + i);
        }
    }

    static long[] known(long... all) {
        return all;
    }

    static long[] knownExact(long c) {
        return known(c, 0, c, c, c, c);
    }

    static long[] knownAny() {
        return known(0, MOST, 0, MOST, MIN, MAX);
    }

    static long[] knownAnyNarrow() {
        return known(0, LOW, 0, LOW, 0, LOW);
    }

    /** A number that was another one becomes this, and the one beside stays. */
    static void isSet(Setting how, long... want) {
        RangeDesk desk = new RangeDesk();
        set(desk, 0, exact(9));
        set(desk, 0, how);
        CHECK.number("set", desk, 0, want);
        CHECK.exact("the number beside", desk, 1, 0);
    }

    static void operates(int operation, Setting x, Setting y, long... want) {
        operates(operation, false, x, y, want);
    }

    static void narrow(int operation, Setting x, Setting y, long... want) {
        operates(operation, true, x, y, want);
    }

    private static void operates(int operation, boolean narrow, Setting x, Setting y, long[] want) {
        RangeDesk desk = desk(x, y);
        long[] xWas = Check.all(desk, X);
        long[] yWas = Check.all(desk, Y);
        String call = "operate " + operation + (narrow ? " narrow of " : " of ")
                + Check.text(xWas) + " and " + Check.text(yWas);
        CHECK.due(call, desk.operate(R, operation, X, Y, narrow), true);
        CHECK.number(call, desk, R, want);
        CHECK.number(call + ", x", desk, X, xWas);
        CHECK.number(call + ", y", desk, Y, yWas);
    }

    /** Where wantX is null, the relation can't hold, and both stay as they were. */
    static void holds(int relation, boolean narrow, Setting x, Setting y, long[] wantX, long[] wantY) {
        RangeDesk desk = desk(x, y);
        long[] xWas = Check.all(desk, X);
        long[] yWas = Check.all(desk, Y);
        String call = "holds " + relation + (narrow ? " narrow of " : " of ")
                + Check.text(xWas) + " and " + Check.text(yWas);
        CHECK.due(call, desk.holds(relation, X, Y, narrow), wantX != null);
        CHECK.number(call + ", x", desk, X, wantX != null ? wantX : xWas);
        CHECK.number(call + ", y", desk, Y, wantX != null ? wantY : yWas);
    }

    static void tells(int relation, Setting x, Setting y, long[] wantX, long[] wantY) {
        holds(relation, false, x, y, wantX, wantY);
    }

    static void cannot(int relation, Setting x, Setting y) {
        holds(relation, false, x, y, null, null);
    }

    static void cannotNarrow(int relation, Setting x, Setting y) {
        holds(relation, true, x, y, null, null);
    }

    static void tellsNothing(int relation, boolean narrow, Setting x, Setting y) {
        RangeDesk desk = desk(x, y);
        holds(relation, narrow, x, y, Check.all(desk, X), Check.all(desk, Y));
    }

    static void covers(Setting i, Setting other, boolean forth, boolean back) {
        RangeDesk desk = desk(i, other);
        String pair = Check.text(Check.all(desk, X)) + " and " + Check.text(Check.all(desk, Y));
        CHECK.due("covers of " + pair, desk.covers(X, Y), forth);
        CHECK.due("covers, turned, of " + pair, desk.covers(Y, X), back);
        CHECK.due("covers of itself", desk.covers(X, X) && desk.covers(Y, Y), true);
    }
}
