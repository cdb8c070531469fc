import java.util.Arrays;

/** The edges of promise 8, sentence by sentence. */
public final class CopyEdgesTest {
    private static final int NONE = Check.NONE;
    private static final int LOST = Check.LOST;
    private static final int ROWS = Check.ROWS;
    private static final int COLUMNS = Check.COLUMNS;
    private static final int LEAST = Integer.MIN_VALUE;
    private static final int MOST = Integer.MAX_VALUE;

    public static void main(String[] args) {
        downHasLimits();
        alongHasLimits();
        placeLeavesTheSheet();
        fixedPlaceDoesNotLeave();
        eachLineOfARangeLeaves();
        rowsOfColumnsStay();
        columnsOfRowsStay();
        onlyTheMarkKeepsLines();
        linesAreExchanged();
        equalLinesStay();
        looseOrFixedLinesKeepTheirOrder();
        whatIsNotChangedIsNotCounted();
        noCode();
        fullCode();
        Check.end();
    }

    /** IllegalArgumentException: down isn't -1048575 .. 1048575. */
    private static void downHasLimits() {
        for (int down : new int[] {ROWS, -ROWS, ROWS + 1, -ROWS - 1, MOST, LEAST, MOST - 1, LEAST + 1}) {
            for (int along : new int[] {0, 1, COLUMNS - 1, 1 - COLUMNS, COLUMNS}) {
                Check.throwsIllegal("copy(" + down + ", " + along + ")", m -> m.copy(down, along));
            }
        }
        copied(new int[] {4, 0, 1, 5}, ROWS - 1, 0, 1, 4, 0, ROWS, 5);
        copied(new int[] {4, 0, ROWS, 5}, 1 - ROWS, 0, 1, 4, 0, 1, 5);
        copied(new int[] {4, 0, 2, 5}, ROWS - 1, 0, 1, LOST);
        copied(new int[] {4, 0, ROWS - 1, 5}, 1 - ROWS, 0, 1, LOST);
    }

    /** IllegalArgumentException: along isn't -16383 .. 16383. */
    private static void alongHasLimits() {
        for (int along : new int[] {COLUMNS, -COLUMNS, COLUMNS + 1, -COLUMNS - 1, ROWS - 1, MOST, LEAST,
            MOST - 1, LEAST + 1}) {
            for (int down : new int[] {0, 1, ROWS - 1, 1 - ROWS, ROWS}) {
                Check.throwsIllegal("copy(" + down + ", " + along + ")", m -> m.copy(down, along));
            }
        }
        copied(new int[] {4, 0, 5, 1}, 0, COLUMNS - 1, 1, 4, 0, 5, COLUMNS);
        copied(new int[] {4, 0, 5, COLUMNS}, 0, 1 - COLUMNS, 1, 4, 0, 5, 1);
        copied(new int[] {4, 0, 5, 2}, 0, COLUMNS - 1, 1, LOST);
        copied(new int[] {4, 0, 5, COLUMNS - 1}, 0, 1 - COLUMNS, 1, LOST);
    }

    private static ReferenceMover with(int... item) {
        int marks = item[0] / 16;
        return item[0] % 16 == 4 ? Check.withPlace(marks, item[1], item[2], item[3])
                : Check.withRange(marks, item[1], item[2], item[3], item[4], item[5]);
    }

    private static void copied(int[] item, int down, int along, int changed, int... want) {
        String what = "copy(" + down + ", " + along + ") of " + Arrays.toString(item);
        ReferenceMover mover = with(item);
        Check.due(what, mover.copy(down, along), changed);
        Check.code(what, mover, want);
    }

    /** A range of fixed lines but for one, which goes to a line: put in order, or LOST. */
    private static void oneLoose(int sheet, int loose, int to) {
        int[] lines = {500, 300, 700, 400};
        int[] marks = {2, 1, 8, 4};
        int by = to - lines[loose];
        boolean row = loose % 2 == 0;
        int[] item = {5 + 16 * (15 - marks[loose]), sheet, lines[0], lines[1], lines[2], lines[3]};
        int[] want = item.clone();
        want[2 + loose] = to;
        int first = row ? 2 : 3;
        if (want[first] > want[first + 2]) {
            int line = want[first];
            want[first] = want[first + 2];
            want[first + 2] = line;
            want[0] = 5 + 16 * (15 - marks[(loose + 2) % 4]);
        }
        boolean lost = to < 1 || to > (row ? ROWS : COLUMNS);
        copied(item, row ? by : 0, row ? 0 : by, by == 0 ? 0 : 1, lost ? new int[] {LOST} : want);
    }

    /** One is LOST if it would leave the sheet: a place, on each side. */
    private static void placeLeavesTheSheet() {
        for (int row : new int[] {1, 2, 77, COLUMNS, ROWS - 1, ROWS}) {
            for (int to : new int[] {1, 2, ROWS - 1, ROWS, 0, -1, ROWS + 1, ROWS + 2}) {
                int by = to - row;
                if (by > -ROWS && by < ROWS) {
                    boolean lost = to < 1 || to > ROWS;
                    int[] want = lost ? new int[] {LOST} : new int[] {4, 3, to, 9};
                    copied(new int[] {4, 3, row, 9}, by, 0, by == 0 ? 0 : 1, want);
                    want = lost ? new int[] {LOST} : new int[] {20, 3, to, 9};
                    copied(new int[] {20, 3, row, 9}, by, -9, by == 0 ? 0 : 1, want);
                }
            }
        }
        for (int column : new int[] {1, 2, 77, COLUMNS - 1, COLUMNS}) {
            for (int to : new int[] {1, 2, COLUMNS - 1, COLUMNS, 0, -1, COLUMNS + 1, COLUMNS + 2}) {
                int by = to - column;
                if (by > -COLUMNS && by < COLUMNS) {
                    boolean lost = to < 1 || to > COLUMNS;
                    int[] want = lost ? new int[] {LOST} : new int[] {4, NONE, 9, to};
                    copied(new int[] {4, NONE, 9, column}, 0, by, by == 0 ? 0 : 1, want);
                    want = lost ? new int[] {LOST} : new int[] {36, NONE, 9, to};
                    copied(new int[] {36, NONE, 9, column}, -9, by, by == 0 ? 0 : 1, want);
                }
            }
        }
        copied(new int[] {4, 3, 1, 1}, -1, -1, 1, LOST);
        copied(new int[] {4, 3, ROWS, COLUMNS}, 1, 1, 1, LOST);
        copied(new int[] {4, 3, ROWS, 1}, 1, 1, 1, LOST);
        copied(new int[] {4, 3, 1, COLUMNS}, 1, 1, 1, LOST);
    }

    /** What has no $ moves: with both $ no way is too far, with one the other line may leave. */
    private static void fixedPlaceDoesNotLeave() {
        int[] downs = {1 - ROWS, -1, 0, 1, ROWS - 1};
        int[] alongs = {1 - COLUMNS, -1, 0, 1, COLUMNS - 1};
        for (int down : downs) {
            for (int along : alongs) {
                copied(new int[] {52, 7, 1, COLUMNS}, down, along, 0, 52, 7, 1, COLUMNS);
                copied(new int[] {5 + 16 * 15, 7, 1, 2, ROWS, COLUMNS}, down, along, 0,
                        5 + 16 * 15, 7, 1, 2, ROWS, COLUMNS);
            }
            copied(new int[] {36, 7, 1, 5}, down, 1, 1, 36, 7, 1, 6);
            copied(new int[] {36, 7, ROWS, 5}, down, -5, 1, LOST);
        }
        for (int along : alongs) {
            copied(new int[] {20, 7, 5, 1}, 1, along, 1, 20, 7, 6, 1);
            copied(new int[] {20, 7, 5, COLUMNS}, -5, along, 1, LOST);
        }
    }

    /** One is LOST if it would leave the sheet: a range, if but one of its lines would. */
    private static void eachLineOfARangeLeaves() {
        for (int loose = 0; loose < 4; loose++) {
            int last = loose % 2 == 0 ? ROWS : COLUMNS;
            for (int to : new int[] {1, 2, last - 1, last, 0, -1, last + 1, last + 2}) {
                oneLoose(4, loose, to);
            }
        }
        copied(new int[] {5, 0, 2, 2, 9, 9}, -1, -1, 1, 5, 0, 1, 1, 8, 8);
        copied(new int[] {5, 0, 2, 2, 9, 9}, -2, 0, 1, LOST);
        copied(new int[] {5, 0, 2, 2, 9, 9}, 0, -2, 1, LOST);
        copied(new int[] {5, 0, 2, 2, 9, 9}, ROWS - 9, COLUMNS - 9, 1,
                5, 0, ROWS - 7, COLUMNS - 7, ROWS, COLUMNS);
        copied(new int[] {5, 0, 2, 2, 9, 9}, ROWS - 8, 0, 1, LOST);
        copied(new int[] {5, 0, 2, 2, 9, 9}, 0, COLUMNS - 8, 1, LOST);
        // Far beyond on both sides.
        copied(new int[] {5, 0, 1, 1, ROWS, COLUMNS}, 1, 0, 1, LOST);
        copied(new int[] {5, 0, 1, 1, ROWS, COLUMNS}, -1, 0, 1, LOST);
        copied(new int[] {5, 0, 1, 1, ROWS, COLUMNS}, 0, 1, 1, LOST);
        copied(new int[] {5, 0, 1, 1, ROWS, COLUMNS}, 0, -1, 1, LOST);
        copied(new int[] {5, 0, ROWS, COLUMNS, ROWS, COLUMNS}, 1 - ROWS, 1 - COLUMNS, 1,
                5, 0, 1, 1, 1, 1);
        copied(new int[] {5, 0, 1, 1, 1, 1}, ROWS - 1, COLUMNS - 1, 1,
                5, 0, ROWS, COLUMNS, ROWS, COLUMNS);
    }

    /** What has no $ moves, but not the rows of COLUMNS. */
    private static void rowsOfColumnsStay() {
        for (int marks = 16; marks < 32; marks++) {
            int head = 5 + 16 * marks;
            for (int down : new int[] {1 - ROWS, -1, 0, 1, ROWS - 1}) {
                copied(new int[] {head, 2, 1, 5, ROWS, 8}, down, 0, 0, head, 2, 1, 5, ROWS, 8);
                copied(new int[] {head, 2, 1, 1, ROWS, COLUMNS}, down, 0, 0,
                        head, 2, 1, 1, ROWS, COLUMNS);
            }
        }
        copied(new int[] {261, 2, 1, 5, ROWS, 8}, ROWS - 1, -4, 1, 261, 2, 1, 1, ROWS, 4);
        copied(new int[] {261, 2, 1, 5, ROWS, 8}, 0, -5, 1, LOST);
        copied(new int[] {261, 2, 1, 5, ROWS, 8}, -1, COLUMNS - 8, 1,
                261, 2, 1, COLUMNS - 3, ROWS, COLUMNS);
        copied(new int[] {261, 2, 1, 5, ROWS, 8}, 0, COLUMNS - 7, 1, LOST);
    }

    /** What has no $ moves, but not the columns of ROWS. */
    private static void columnsOfRowsStay() {
        for (int marks = 32; marks < 48; marks++) {
            int head = 5 + 16 * marks;
            for (int along : new int[] {1 - COLUMNS, -1, 0, 1, COLUMNS - 1}) {
                copied(new int[] {head, 2, 5, 1, 8, COLUMNS}, 0, along, 0, head, 2, 5, 1, 8, COLUMNS);
                copied(new int[] {head, 2, 1, 1, ROWS, COLUMNS}, 0, along, 0,
                        head, 2, 1, 1, ROWS, COLUMNS);
            }
        }
        copied(new int[] {517, 2, 5, 1, 8, COLUMNS}, -4, COLUMNS - 1, 1, 517, 2, 1, 1, 4, COLUMNS);
        copied(new int[] {517, 2, 5, 1, 8, COLUMNS}, -5, 0, 1, LOST);
        copied(new int[] {517, 2, 5, 1, 8, COLUMNS}, ROWS - 8, -1, 1,
                517, 2, ROWS - 3, 1, ROWS, COLUMNS);
        copied(new int[] {517, 2, 5, 1, 8, COLUMNS}, ROWS - 7, 0, 1, LOST);
    }

    /** COLUMNS and ROWS are what has the mark: without it all lines move, and so leave. */
    private static void onlyTheMarkKeepsLines() {
        copied(new int[] {5, 2, 1, 5, ROWS, 8}, 1, 0, 1, LOST);
        copied(new int[] {5, 2, 1, 5, ROWS, 8}, -1, 0, 1, LOST);
        copied(new int[] {5, 2, 5, 1, 8, COLUMNS}, 0, 1, 1, LOST);
        copied(new int[] {5, 2, 5, 1, 8, COLUMNS}, 0, -1, 1, LOST);
        copied(new int[] {261, 2, 1, 1, ROWS, COLUMNS}, 0, 1, 1, LOST);
        copied(new int[] {517, 2, 1, 1, ROWS, COLUMNS}, 1, 0, 1, LOST);
        copied(new int[] {5, 2, 1, 5, ROWS, 8}, 0, 1, 1, 5, 2, 1, 6, ROWS, 9);
        copied(new int[] {5, 2, 5, 1, 8, COLUMNS}, 1, 0, 1, 5, 2, 6, 1, 9, COLUMNS);
    }

    /** If a range's rows or columns change their order, they are exchanged, each with its $. */
    private static void linesAreExchanged() {
        oneLoose(1, 0, 701);
        oneLoose(1, 1, 401);
        oneLoose(1, 2, 499);
        oneLoose(1, 3, 299);
        // The other direction keeps its lines and its $.
        copied(new int[] {5 + 16 * (8 + 1), 1, 5, 6, 7, 8}, 3, 0, 1, 5 + 16 * (2 + 1), 1, 7, 6, 8, 8);
        copied(new int[] {5 + 16 * (8 + 4), 1, 5, 6, 7, 8}, 3, 0, 1, 5 + 16 * (2 + 4), 1, 7, 6, 8, 8);
        copied(new int[] {5 + 16 * (4 + 2), 1, 5, 6, 7, 8}, 0, 3, 1, 5 + 16 * (1 + 2), 1, 5, 8, 7, 9);
        copied(new int[] {5 + 16 * (4 + 8), 1, 5, 6, 7, 8}, 0, 3, 1, 5 + 16 * (1 + 8), 1, 5, 8, 7, 9);
        copied(new int[] {5 + 16 * (8 + 4), 1, 5, 6, 7, 8}, 3, 3, 1, 5 + 16 * (2 + 1), 1, 7, 8, 8, 9);
        // From equal lines each way leads to one of the two orders.
        copied(new int[] {5 + 16 * 8, 1, 5, 6, 5, 8}, 1, 0, 1, 5 + 16 * 2, 1, 5, 6, 6, 8);
        copied(new int[] {5 + 16 * 8, 1, 5, 6, 5, 8}, -1, 0, 1, 5 + 16 * 8, 1, 4, 6, 5, 8);
        copied(new int[] {5 + 16 * 2, 1, 5, 6, 5, 8}, 1, 0, 1, 5 + 16 * 2, 1, 5, 6, 6, 8);
        copied(new int[] {5 + 16 * 2, 1, 5, 6, 5, 8}, -1, 0, 1, 5 + 16 * 8, 1, 4, 6, 5, 8);
        // COLUMNS and ROWS in the direction in which they move.
        copied(new int[] {5 + 16 * (16 + 4), 1, 1, 5, ROWS, 8}, 9, 4, 1,
                5 + 16 * (16 + 1), 1, 1, 8, ROWS, 9);
        copied(new int[] {5 + 16 * (32 + 8), 1, 5, 1, 8, COLUMNS}, 4, 9, 1,
                5 + 16 * (32 + 2), 1, 8, 1, 9, COLUMNS);
    }

    /** (equal ones stay). */
    private static void equalLinesStay() {
        oneLoose(1, 0, 700);
        oneLoose(1, 1, 400);
        oneLoose(1, 2, 500);
        oneLoose(1, 3, 300);
        oneLoose(1, 0, 699);
        oneLoose(1, 1, 399);
        oneLoose(1, 2, 501);
        oneLoose(1, 3, 301);
        for (int marks = 0; marks < 16; marks++) {
            int head = 5 + 16 * marks;
            copied(new int[] {head, 1, 5, 6, 5, 6}, 0, 0, 0, head, 1, 5, 6, 5, 6);
        }
        copied(new int[] {5 + 16 * 4, 1, 5, 6, 5, 8}, 0, 2, 1, 5 + 16 * 4, 1, 5, 8, 5, 8);
    }

    /** Lines that move together, or not at all, cannot change their order. */
    private static void looseOrFixedLinesKeepTheirOrder() {
        for (int by : new int[] {-4, -1, 1, 4, 900}) {
            copied(new int[] {5, 1, 5, 6, 5, 7}, by, by, 1, 5, 1, 5 + by, 6 + by, 5 + by, 7 + by);
            copied(new int[] {5 + 16 * 10, 1, 5, 6, 5, 7}, by, by, 1,
                    5 + 16 * 10, 1, 5, 6 + by, 5, 7 + by);
            copied(new int[] {5 + 16 * 5, 1, 5, 6, 5, 7}, by, by, 1,
                    5 + 16 * 5, 1, 5 + by, 6, 5 + by, 7);
        }
    }

    /** How many places and ranges changed or were lost. */
    private static void whatIsNotChangedIsNotCounted() {
        ReferenceMover mover = new ReferenceMover();
        mover.other(LOST);
        mover.place(3, NONE, 1, 1);
        mover.range(15, NONE, 1, 1, 2, 2);
        mover.range(16, NONE, 1, 1, ROWS, 2);
        mover.place(1, NONE, 4, 1);
        mover.range(12, NONE, 4, 4, 9, 9);
        mover.place(2, NONE, 1, 1);
        mover.range(0, NONE, 3, 3, 4, 4);
        mover.other(-4);
        Check.due("three of six", mover.copy(-3, 0), 3);
        Check.code("three of six", mover, LOST, 52, NONE, 1, 1, 245, NONE, 1, 1, 2, 2,
                261, NONE, 1, 1, ROWS, 2, 20, NONE, 1, 1, 5 + 16 * 12, NONE, 1, 4, 9, 9,
                36, NONE, 1, 1, LOST, -4);
        Check.due("none by copy(0, 0)", mover.copy(0, 0), 0);
    }

    private static void noCode() {
        ReferenceMover mover = new ReferenceMover();
        Check.due("down most", mover.copy(ROWS - 1, 0), 0);
        Check.due("up most", mover.copy(1 - ROWS, 0), 0);
        Check.due("right most", mover.copy(0, COLUMNS - 1), 0);
        Check.due("left most", mover.copy(0, 1 - COLUMNS), 0);
        Check.code("no code", mover);
        Before.EMPTY.checkRectangle("no code", mover);
    }

    private static void fullCode() {
        int[] moved = Before.FULL.code();
        for (int k = 2; k < 1000; k++) {
            int place = (k - 4) % 6;
            if (k < 4 || place >= 2) {
                moved[k] += k == 2 || k > 3 && place % 2 == 0 ? 7 : -1;
            }
        }
        Check.longCode("full code", () -> copiedFull(7, -1), moved);
        int[] lost = new int[167];
        Arrays.fill(lost, LOST);
        Check.longCode("full code lost", () -> copiedFull(-2, 0), lost);
        // The place at the code's beginning is lost, and the ranges behind it come forward.
        int[] forward = new int[997];
        forward[0] = LOST;
        for (int k = 1; k < 997; k++) {
            forward[k] = Before.FULL.code()[k + 3] - ((k - 1) % 6 == 3 || (k - 1) % 6 == 5 ? 2 : 0);
        }
        Check.longCode("full code, its first item lost", () -> copiedFull(0, -2), forward);
        Before.FULL.checkRectangle("full code", copiedFull(0, -2));
    }

    private static ReferenceMover copiedFull(int down, int along) {
        ReferenceMover mover = Before.FULL.make();
        Check.due("copy of the full code", mover.copy(down, along), 167);
        return mover;
    }
}
