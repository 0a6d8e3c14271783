/** How long an object is good for: every call up to the 512th answers as due, refused ones and throwing ones counted. */
public final class BoundaryCallsTest extends ByHand {

    private static final int CALLS = 512;

    private static final int FIVE = 1;
    private static final int FIVE_TO_NINE = 2;
    private static final int SCRATCH = 3;
    private static final int SUM = 4;

    /** One call on a desk, held to its answer. */
    interface Step {
        void make(RangeDesk desk);
    }

    // One behind the other, and over again: each finds what those ahead of it have left.
    private static final Step[] ROUND = {
        desk -> CHECK.due("exact", desk.exact(SCRATCH, 77), true),
        desk -> CHECK.due("look", desk.look(SCRATCH, 2), 77),
        desk -> CHECK.due("any", desk.any(SCRATCH), true),
        desk -> CHECK.due("look", desk.look(SCRATCH, 5), MAX),
        desk -> CHECK.due("holds", desk.holds(7, SCRATCH, FIVE, false), true),
        desk -> CHECK.due("has", desk.has(SCRATCH, 4), true),
        desk -> CHECK.due("has", desk.has(SCRATCH, 5), false),
        desk -> CHECK.due("operate", desk.operate(SUM, 0, SCRATCH, FIVE, false), true),
        desk -> CHECK.due("covers", desk.covers(SUM, FIVE_TO_NINE), true),
        desk -> CHECK.due("covers", desk.covers(FIVE, SUM), false),
        desk -> CHECK.due("holds that can't", desk.holds(0, SUM, SCRATCH, true), false),
        desk -> CHECK.due("look", desk.look(SUM, 3), 9),
        desk -> CHECK.due("bits", desk.bits(SCRATCH, 12, 3), true),
        desk -> CHECK.due("look", desk.look(SCRATCH, 1), 3),
        desk -> CHECK.due("bounds", desk.bounds(SCRATCH, -4, 3, true), true),
        desk -> CHECK.due("look", desk.look(SCRATCH, 4), -4),
        desk -> CHECK.due("a least above its greatest", desk.bounds(SCRATCH, -4, 3, false), false),
        desk -> CHECK.due("no such number", desk.exact(16, 1), false),
        desk -> CHECK.due("no such number", desk.any(-1), false),
        desk -> CHECK.due("no such number", desk.bits(16, 0, 0), false),
        desk -> CHECK.due("no such operation", desk.operate(SCRATCH, 15, FIVE, FIVE, false), false),
        desk -> CHECK.due("no such relation", desk.holds(12, SCRATCH, FIVE, false), false),
        desk -> CHECK.due("x is y", desk.holds(0, SCRATCH, SCRATCH, false), false),
        desk -> CHECK.throwsIndex("no such number", () -> desk.look(16, 0)),
        desk -> CHECK.throwsIndex("no such what", () -> desk.look(0, 6)),
        desk -> CHECK.throwsIndex("no such number", () -> desk.has(-1, 0)),
        desk -> CHECK.throwsIndex("no such number", () -> desk.covers(0, 16)),
        desk -> CHECK.due("look", desk.look(SCRATCH, 5), 3)};

    public static void main(String[] args) {
        CHECK.sentence("Promises 1 to 10, What it is",
                "An object is used for at most 512 calls after it has been made; what later calls answer is free.",
                BoundaryCallsTest::upToTheLast);
        CHECK.end();
    }

    private static void upToTheLast() {
        allKindsUpToTheLast();
        oneKindUpToTheLast();
        sumUpToTheLast();
        boundsUpToTheLast();
    }

    /** Each kind of call comes to be the 512th, and each the 511th. */
    private static void allKindsUpToTheLast() {
        for (int ahead = 0; ahead < ROUND.length; ahead++) {
            RangeDesk desk = new RangeDesk();
            int made = 0;
            CHECK.due("exact", desk.exact(FIVE, 5), true);
            CHECK.due("bounds", desk.bounds(FIVE_TO_NINE, 5, 9, false), true);
            made += 2;
            for (int i = 0; i < ahead; i++) {
                CHECK.due("a number that is still new", desk.look(15, 0), 0);
                made++;
            }
            for (int i = 0; made < CALLS; i++) {
                ROUND[i % ROUND.length].make(desk);
                made++;
            }
        }
    }

    /** A call that changes nothing more, 511 times over, and then each of those that ask. */
    private static void oneKindUpToTheLast() {
        Step[] same = {
            desk -> CHECK.due("exact", desk.exact(0, 9), true),
            desk -> CHECK.due("any", desk.any(1), true),
            desk -> CHECK.due("bits", desk.bits(1, 0, MOST), true),
            desk -> CHECK.due("bounds", desk.bounds(1, 0, MOST, false), true),
            desk -> CHECK.due("operate", desk.operate(2, 0, 3, 4, false), true),
            desk -> CHECK.due("operate", desk.operate(2, 3, 3, 4, true), true),
            desk -> CHECK.due("holds", desk.holds(2, 5, 6, false), true),
            desk -> CHECK.due("holds", desk.holds(4, 5, 6, false), false),
            desk -> CHECK.due("look", desk.look(7, 5), 0),
            desk -> CHECK.due("has", desk.has(7, 0), true),
            desk -> CHECK.due("covers", desk.covers(7, 8), true),
            desk -> CHECK.due("exact of 16", desk.exact(16, 9), false),
            desk -> CHECK.due("any of 16", desk.any(16), false),
            desk -> CHECK.due("bits of 16", desk.bits(16, 1, 2), false),
            desk -> CHECK.due("bounds of 16", desk.bounds(16, 1, 2, true), false),
            desk -> CHECK.due("bounds 2, 1", desk.bounds(0, 2, 1, true), false),
            desk -> CHECK.due("operate into 16", desk.operate(16, 0, 1, 2, false), false),
            desk -> CHECK.due("holds of x and x", desk.holds(0, 1, 1, false), false),
            desk -> CHECK.throwsIndex("look at 16", () -> desk.look(16, 0)),
            desk -> CHECK.throwsIndex("look for 6", () -> desk.look(0, 6)),
            desk -> CHECK.throwsIndex("has of 16", () -> desk.has(16, 0)),
            desk -> CHECK.throwsIndex("covers of 16", () -> desk.covers(16, 0))};
        for (Step step : same) {
            for (int what = 0; what < 6; what++) {
                CHECK.due("the 512th call, look", after(step).look(15, what), 0);
            }
            CHECK.due("the 512th call, has", after(step).has(15, 0), true);
            CHECK.due("the 512th call, has", after(step).has(15, 1), false);
            CHECK.due("the 512th call, covers", after(step).covers(14, 15), true);
            CHECK.due("the 512th call, exact", after(step).exact(15, 3), true);
            CHECK.due("the 512th call, any", after(step).any(15), true);
            CHECK.due("the 512th call, bits", after(step).bits(15, 1, 2), true);
            CHECK.due("the 512th call, bounds", after(step).bounds(15, 1, 2, true), true);
            CHECK.due("the 512th call, operate", after(step).operate(15, 14, 14, 13, true), true);
            CHECK.due("the 512th call, holds", after(step).holds(0, 14, 15, false), true);
            CHECK.due("the 512th call, holds", after(step).holds(1, 14, 15, false), false);
            CHECK.throwsIndex("the 512th call, look", () -> after(step).look(15, 6));
            CHECK.throwsIndex("the 512th call, has", () -> after(step).has(16, 0));
            CHECK.throwsIndex("the 512th call, covers", () -> after(step).covers(15, 16));
        }
    }

    private static RangeDesk after(Step step) {
        RangeDesk desk = new RangeDesk();
        for (int made = 0; made < CALLS - 1; made++) {
            step.make(desk);
        }
        return desk;
    }

    private static void sumUpToTheLast() {
        for (int last = 3; last <= CALLS; last++) {
            RangeDesk desk = new RangeDesk();
            CHECK.due("exact", desk.exact(15, 1), true);
            for (int made = 1; made < last - 1; made++) {
                CHECK.due("ADD", desk.operate(0, 0, 0, 15, false), true);
            }
            CHECK.due("call " + last + " looks at the sum", desk.look(0, 0), last - 2);
        }
    }

    /** Each pair of calls takes one more long from the lower end. */
    private static void boundsUpToTheLast() {
        RangeDesk desk = new RangeDesk();
        CHECK.due("any", desk.any(15), true);
        for (int least = 0; least < (CALLS - 2) / 2; least++) {
            CHECK.due("exact", desk.exact(0, least), true);
            CHECK.due("NOT SAME", desk.holds(4, 15, 0, false), true);
        }
        CHECK.due("the 512th call looks at the least", desk.look(15, 2), (CALLS - 2) / 2);
    }
}
