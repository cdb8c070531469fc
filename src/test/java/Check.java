import java.util.Arrays;

/** Compares answers with those that are due, and counts the wrong ones. */
final class Check {
    static final int NONE = ReferenceMover.NONE;
    static final int LOST = 67;
    static final int ROWS = 1048576;
    static final int COLUMNS = 16384;

    private static int wrong = 0;

    private Check() {
    }

    /** An object is used for at most 512 calls, so a long code is read in parts. */
    private static final int PART = 250;

    interface Call {
        int run();
    }

    interface Maker {
        ReferenceMover make();
    }

    interface Attempt {
        int on(ReferenceMover mover);
    }

    static void due(String what, long got, long want) {
        if (got != want) {
            fail(what + " answered " + got + ", due is " + want);
        }
    }

    static void yes(String what, boolean got) {
        due(what, got ? 1 : 0, 1);
    }

    static void no(String what, boolean got) {
        due(what, got ? 1 : 0, 0);
    }

    static void code(String what, ReferenceMover mover, int... want) {
        int[] got = new int[Math.max(0, mover.size())];
        for (int k = 0; k < got.length; k++) {
            got[k] = mover.word(k);
        }
        if (!Arrays.equals(got, want)) {
            fail(what + ": the code is " + Arrays.toString(got)
                    + ", due is " + Arrays.toString(want));
        }
    }

    /** As code, of a code that may be too long to be read in the calls of one object. */
    static void longCode(String what, Maker maker, int... want) {
        for (int from = 0; from == 0 || from < want.length; from += PART) {
            part(what, maker.make(), from, want);
        }
    }

    private static void part(String what, ReferenceMover mover, int from, int[] want) {
        due(what + ": size", mover.size(), want.length);
        for (int k = from; k < Math.min(from + PART, want.length); k++) {
            due(what + ": word(" + k + ")", mover.word(k), want[k]);
        }
        due(what + ": word behind the code", mover.word(want.length), 0);
    }

    /** The call answers false, and code and rectangle are as they were, whatever they were. */
    static void answersFalse(String what, Attempt attempt) {
        for (Before before : Before.values()) {
            answersFalse(what, before, attempt);
        }
    }

    static void answersFalse(String what, Before before, Attempt attempt) {
        int[] code = before.code();
        String where = what + " on " + before;
        for (int from = 0; from == 0 || from < code.length; from += PART) {
            ReferenceMover mover = before.make();
            due(where, attempt.on(mover), 0);
            part(where, mover, from, code);
            before.checkRectangle(where, mover);
        }
    }

    /** The call throws, and code and rectangle are as they were, whatever they were. */
    static void throwsIllegal(String what, Attempt attempt) {
        for (Before before : Before.values()) {
            throwsIllegal(what, before, attempt);
        }
    }

    static void throwsIllegal(String what, Before before, Attempt attempt) {
        int[] code = before.code();
        String where = what + " on " + before;
        for (int from = 0; from == 0 || from < code.length; from += PART) {
            ReferenceMover mover = before.make();
            throwsOnly(where, () -> attempt.on(mover));
            part(where, mover, from, code);
            before.checkRectangle(where, mover);
        }
    }

    /** The call answers true and puts the item behind the code; the rectangle stays. */
    static void putsBehind(String what, Attempt attempt, int... item) {
        for (Before before : new Before[] {Before.EMPTY, Before.SOME}) {
            ReferenceMover mover = before.make();
            String where = what + " on " + before;
            due(where, attempt.on(mover), 1);
            int[] code = before.code();
            int[] want = Arrays.copyOf(code, code.length + item.length);
            System.arraycopy(item, 0, want, code.length, item.length);
            code(where, mover, want);
            before.checkRectangle(where, mover);
        }
    }

    /**
     * The rectangle that move cuts is this one: its corners move, and what is next to it on each
     * side, or at its place on another sheet, does not. The code is taken away for that.
     */
    static void rectangle(String what, ReferenceMover mover, int sheet, int top, int left,
            int bottom, int right) {
        int elsewhere = (sheet + 1) % 8;
        int to = (sheet + 2) % 8;
        int[][] inside = {{top, left}, {top, right}, {bottom, left}, {bottom, right}};
        int[][] outside = {{top - 1, left}, {bottom + 1, right}, {top, left - 1}, {bottom, right + 1}};
        mover.clear();
        int[] want = new int[36];
        int length = 0;
        for (int[] cell : inside) {
            yes("place", mover.place(0, sheet, cell[0], cell[1]));
            length = add(want, length, to, 1 + cell[0] - top, 1 + cell[1] - left);
        }
        for (int[] cell : outside) {
            boolean isCell = cell[0] >= 1 && cell[0] <= ROWS && cell[1] >= 1 && cell[1] <= COLUMNS;
            if (isCell) {
                yes("place", mover.place(0, sheet, cell[0], cell[1]));
                length = add(want, length, sheet, cell[0], cell[1]);
            }
        }
        yes("place", mover.place(0, elsewhere, top, left));
        length = add(want, length, elsewhere, top, left);
        due(what + ": move of the rectangle", mover.move(0, 0, to, 1, 1), 4);
        code(what + ": move of the rectangle", mover, Arrays.copyOf(want, length));
    }

    private static int add(int[] code, int length, int sheet, int row, int column) {
        int[] place = {4, sheet, row, column};
        System.arraycopy(place, 0, code, length, 4);
        return length + 4;
    }

    /** The call throws IllegalArgumentException itself, no class below it, and the code stays. */
    static void refused(String what, ReferenceMover mover, Call call) {
        int[] before = new int[mover.size()];
        for (int k = 0; k < before.length; k++) {
            before[k] = mover.word(k);
        }
        throwsOnly(what, call);
        code(what + " afterwards", mover, before);
    }

    private static void throwsOnly(String what, Call call) {
        try {
            int got = call.run();
            fail(what + " answered " + got + ", due is IllegalArgumentException");
        } catch (RuntimeException e) {
            if (e.getClass() != IllegalArgumentException.class) {
                fail(what + " threw " + e + ", due is IllegalArgumentException");
            }
        }
    }

    static void fail(String text) {
        wrong++;
        System.out.println(text);
    }

    static ReferenceMover withPlace(int marks, int sheet, int row, int column) {
        ReferenceMover mover = new ReferenceMover();
        yes("place", mover.place(marks, sheet, row, column));
        return mover;
    }

    static ReferenceMover withRange(int marks, int sheet, int top, int left, int bottom, int right) {
        ReferenceMover mover = new ReferenceMover();
        yes("range", mover.range(marks, sheet, top, left, bottom, right));
        return mover;
    }

    /** Ends the test: with exit code 1 if an answer was wrong. */
    static void end() {
        System.out.println(wrong == 0 ? "all answers are as due" : wrong + " answers are not as due");
        if (wrong != 0) {
            System.exit(1);
        }
    }
}
