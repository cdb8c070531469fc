import java.util.Arrays;

/** Compares answers with those that are due, and counts the wrong ones. */
final class Check {
    static final int NONE = ReferenceMover.NONE;
    static final int LOST = 67;
    static final int ROWS = 1048576;
    static final int COLUMNS = 16384;

    private static int wrong = 0;

    private Check() {
    }

    interface Call {
        int run();
    }

    static void due(String what, long got, long want) {
        if (got != want) {
            fail(what + " answered " + got + ", due is " + want);
        }
    }

    static void yes(String what, boolean got) {
        due(what, got ? 1 : 0, 1);
    }

    static void no(String what, boolean got) {
        due(what, got ? 1 : 0, 0);
    }

    static void code(String what, ReferenceMover mover, int... want) {
        int[] got = new int[Math.max(0, mover.size())];
        for (int k = 0; k < got.length; k++) {
            got[k] = mover.word(k);
        }
        if (!Arrays.equals(got, want)) {
            fail(what + ": the code is " + Arrays.toString(got)
                    + ", due is " + Arrays.toString(want));
        }
    }

    /** The call throws IllegalArgumentException itself, no class below it, and the code stays. */
    static void refused(String what, ReferenceMover mover, Call call) {
        int[] before = new int[mover.size()];
        for (int k = 0; k < before.length; k++) {
            before[k] = mover.word(k);
        }
        try {
            int got = call.run();
            fail(what + " answered " + got + ", due is IllegalArgumentException");
        } catch (RuntimeException e) {
            if (e.getClass() != IllegalArgumentException.class) {
                fail(what + " threw " + e + ", due is IllegalArgumentException");
            }
        }
        code(what + " afterwards", mover, before);
    }

    static void fail(String text) {
        wrong++;
        System.out.println(text);
    }

    static ReferenceMover withPlace(int marks, int sheet, int row, int column) {
        ReferenceMover mover = new ReferenceMover();
        yes("place", mover.place(marks, sheet, row, column));
        return mover;
    }

    static ReferenceMover withRange(int marks, int sheet, int top, int left, int bottom, int right) {
        ReferenceMover mover = new ReferenceMover();
        yes("range", mover.range(marks, sheet, top, left, bottom, right));
        return mover;
    }

    /** Ends the test: with exit code 1 if an answer was wrong. */
    static void end() {
        System.out.println(wrong == 0 ? "all answers are as due" : wrong + " answers are not as due");
        if (wrong != 0) {
            System.exit(1);
        }
    }
}
