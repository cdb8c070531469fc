import java.util.Arrays;

/**
 * What an object holds before a call. The edge tests make each call on an object in each of these
 * states, as a call that is refused must leave code and rectangle as they were.
 */
enum Before {
    /** A new object. */
    EMPTY(0, 1, 1, 1, 1),
    /** Items of all kinds, which nearly every change would change. */
    SOME(3, 5, 6, 7, 9),
    /** 1000 numbers. */
    FULL(7, 1048574, 16382, 1048576, 16384);

    private static final int RANGES_OF_FULL = 166;

    final int sheet;
    final int top;
    final int left;
    final int bottom;
    final int right;

    Before(int sheet, int top, int left, int bottom, int right) {
        this.sheet = sheet;
        this.top = top;
        this.left = left;
        this.bottom = bottom;
        this.right = right;
    }

    ReferenceMover make() {
        ReferenceMover mover = new ReferenceMover();
        if (this != EMPTY) {
            Check.yes("rectangle", mover.rectangle(sheet, top, left, bottom, right));
        }
        if (this == SOME) {
            Check.yes("other", mover.other(-12));
            Check.yes("place", mover.place(0, ReferenceMover.NONE, 6, 7));
            Check.yes("range", mover.range(6, 3, 5, 6, 7, 8));
            Check.yes("other", mover.other(Check.LOST));
            Check.yes("range", mover.range(16, 0, 1, 2, Check.ROWS, 3));
            Check.yes("place", mover.place(1, 0, 1, 1));
        }
        if (this == FULL) {
            Check.yes("place", mover.place(0, ReferenceMover.NONE, 2, 2));
            for (int i = 0; i < RANGES_OF_FULL; i++) {
                Check.yes("range", mover.range(0, ReferenceMover.NONE, 2, 3, 4, 5 + i));
            }
        }
        return mover;
    }

    int[] code() {
        int none = ReferenceMover.NONE;
        if (this == EMPTY) {
            return new int[0];
        }
        if (this == SOME) {
            return new int[] {-12, 4, none, 6, 7, 5 + 16 * 6, 3, 5, 6, 7, 8, Check.LOST,
                5 + 16 * 16, 0, 1, 2, Check.ROWS, 3, 20, 0, 1, 1};
        }
        int[] code = Arrays.copyOf(new int[] {4, none, 2, 2}, 1000);
        for (int i = 0; i < RANGES_OF_FULL; i++) {
            int[] range = {5, none, 2, 3, 4, 5 + i};
            System.arraycopy(range, 0, code, 4 + 6 * i, 6);
        }
        return code;
    }

    /** The rectangle is still that of this state; this takes the code away. */
    void checkRectangle(String what, ReferenceMover mover) {
        Check.rectangle(what, mover, sheet, top, left, bottom, right);
    }
}
