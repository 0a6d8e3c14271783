/** Counts and prints the answers that are not the ones due; what every test of the project uses. */
final class Check {

    static final long MOST = -1L;
    static final long LOW = 0xFFFFFFFFL;
    static final long MIN = Long.MIN_VALUE;
    static final long MAX = Long.MAX_VALUE;
    static final int NUMBERS = 16;
    static final int[] WRONG_NUMBERS = {
        -1, 16, 17, -16, 32, 256, 65536, Integer.MIN_VALUE, Integer.MAX_VALUE};

    private int wrong;
    private long asked;
    private String heading = "";

    /** A call that may throw. */
    interface Call {
        void make();
    }

    /** Holds the class to one sentence of the document; every fault that the test finds is told under it. */
    void sentence(String promise, String sentence, Runnable test) {
        heading = promise + ", \"" + sentence + "\": ";
        if (!Document.says(sentence)) {
            report("the document doesn't say so");
        }
        long askedAhead = asked;
        try {
            test.run();
        } catch (RuntimeException e) {
            report("threw " + e);
        }
        if (asked == askedAhead) {
            report("nothing was asked");
        }
        heading = "";
    }

    void due(String what, long got, long want) {
        asked++;
        if (got != want) {
            report(what + " answered " + got + ", due is " + want);
        }
    }

    void due(String what, boolean got, boolean want) {
        asked++;
        if (got != want) {
            report(what + " answered " + got + ", due is " + want);
        }
    }

    void due(String what, String got, String want) {
        asked++;
        if (!want.equals(got)) {
            report(what + " answered " + got + ", due is " + want);
        }
    }

    void throwsIndex(String what, Call call) {
        asked++;
        try {
            call.make();
        } catch (RuntimeException e) {
            if (e.getClass() != IndexOutOfBoundsException.class) {
                report(what + " threw " + e);
            }
            return;
        }
        report(what + " threw nothing");
    }

    /** All that is known of a number: value, mask, unsigned bounds, signed bounds. */
    void number(String what, RangeDesk desk, int i, long... want) {
        asked++;
        for (int k = 0; k < want.length; k++) {
            if (desk.look(i, k) != want[k]) {
                report(what + ": number " + i + " is " + text(all(desk, i)) + ", due is " + text(want));
                return;
            }
        }
    }

    void exact(String what, RangeDesk desk, int i, long c) {
        number(what, desk, i, c, 0, c, c, c, c);
    }

    void any(String what, RangeDesk desk, int i) {
        number(what, desk, i, 0, MOST, 0, MOST, MIN, MAX);
    }

    static long[] all(RangeDesk desk, int i) {
        long[] known = new long[6];
        for (int k = 0; k < 6; k++) {
            known[k] = desk.look(i, k);
        }
        return known;
    }

    static String text(long[] known) {
        StringBuilder text = new StringBuilder();
        for (long part : known) {
            text.append(text.length() == 0 ? "" : " ").append(Long.toHexString(part));
        }
        return text.toString();
    }

    void report(String fault) {
        wrong++;
        if (wrong <= 50) {
            System.out.println(heading + fault);
        }
    }

    void end() {
        System.out.println(wrong == 0 ? "all answers are as due" : wrong + " answers are not as due");
        if (wrong != 0) {
            System.exit(1);
        }
    }
}
