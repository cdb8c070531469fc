/** Promise 8: copy. */
public final class CopyTest {
    private static final int NONE = Check.NONE;
    private static final int LOST = Check.LOST;
    private static final int ROWS = Check.ROWS;
    private static final int COLUMNS = Check.COLUMNS;

    public static void main(String[] args) {
        places();
        placesThatLeave();
        severalItems();
        exchanged();
        equalLines();
        leavesBeforeExchange();
        wholeColumns();
        wholeRows();
        allLinesWithoutTheMark();
        everyMark();
        refused();
        Check.end();
    }

    private static void places() {
        int[][] moved = {{4, NONE, 7, 9}, {20, NONE, 7, 4}, {36, NONE, 5, 9}, {52, NONE, 5, 4}};
        for (int marks = 0; marks < 4; marks++) {
            ReferenceMover mover = Check.withPlace(marks, NONE, 5, 4);
            Check.due("copy " + marks, mover.copy(2, 5), marks == 3 ? 0 : 1);
            Check.code("copy " + marks, mover, moved[marks]);
        }
        ReferenceMover mover = Check.withPlace(0, 6, 5, 4);
        Check.due("not moved", mover.copy(0, 0), 0);
        Check.code("not moved", mover, 4, 6, 5, 4);
        Check.due("up and left", mover.copy(-4, -3), 1);
        Check.code("up and left", mover, 4, 6, 1, 1);
        Check.due("to the last cell", mover.copy(ROWS - 1, COLUMNS - 1), 1);
        Check.code("to the last cell", mover, 4, 6, ROWS, COLUMNS);
        Check.due("back", mover.copy(1 - ROWS, 1 - COLUMNS), 1);
        Check.code("back", mover, 4, 6, 1, 1);
    }

    private static void placesThatLeave() {
        int[][] ways = {{-5, 0}, {0, -4}, {ROWS - 4, 0}, {0, COLUMNS - 3}, {-5, -4}};
        for (int[] way : ways) {
            ReferenceMover mover = Check.withPlace(0, 1, 5, 4);
            Check.due("leaves", mover.copy(way[0], way[1]), 1);
            Check.code("leaves", mover, LOST);
            Check.due("a lost one is not lost again", mover.copy(way[0], way[1]), 0);
            Check.code("a lost one stays", mover, LOST);
            ReferenceMover fixed = Check.withPlace(3, 1, 5, 4);
            Check.due("fixed", fixed.copy(way[0], way[1]), 0);
            Check.code("fixed", fixed, 52, 1, 5, 4);
        }
    }

    private static void severalItems() {
        ReferenceMover mover = new ReferenceMover();
        mover.other(-12);
        mover.place(0, NONE, 1, 1);
        mover.other(LOST);
        mover.range(0, 2, 3, 3, 4, 4);
        mover.range(10, 2, 3, 3, 4, 4);
        mover.other(-11);
        mover.place(2, 5, 1, 8);
        mover.other(6);
        Check.due("several", mover.copy(-1, 0), 2);
        Check.code("several", mover, -12, LOST, LOST, 5, 2, 2, 3, 3, 4,
                165, 2, 3, 3, 4, 4, -11, 36, 5, 1, 8, 6);
    }

    private static void exchanged() {
        ReferenceMover mover = Check.withRange(8, NONE, 3, 3, 9, 9);
        Check.due("upper below the fixed lower", mover.copy(7, 0), 1);
        Check.code("upper below the fixed lower", mover, 5 + 16 * 2, NONE, 9, 3, 10, 9);
        Check.due("and back", mover.copy(-7, 0), 1);
        Check.code("and back", mover, 5 + 16 * 8, NONE, 3, 3, 9, 9);

        mover = Check.withRange(4, NONE, 3, 3, 9, 9);
        Check.due("left beyond the fixed right", mover.copy(0, 7), 1);
        Check.code("left beyond the fixed right", mover, 5 + 16, NONE, 3, 9, 9, 10);

        mover = Check.withRange(1 + 8, 3, 3, 3, 9, 9);
        Check.due("both ways", mover.copy(8, -8), 1);
        Check.code("both ways", mover, 5 + 16 * (2 + 4), 3, 9, 1, 11, 3);

        mover = Check.withRange(1 + 2 + 4, NONE, 3, 3, 9, 9);
        Check.due("lower above the fixed upper", mover.copy(-8, 5), 1);
        Check.code("lower above the fixed upper", mover, 5 + 16 * (1 + 4 + 8), NONE, 1, 3, 3, 9);
    }

    private static void equalLines() {
        ReferenceMover mover = Check.withRange(8, NONE, 3, 3, 9, 9);
        Check.due("equal rows", mover.copy(6, 0), 1);
        Check.code("equal rows", mover, 5 + 16 * 8, NONE, 9, 3, 9, 9);
        mover = Check.withRange(1, NONE, 3, 3, 9, 9);
        Check.due("equal columns", mover.copy(0, -6), 1);
        Check.code("equal columns", mover, 5 + 16, NONE, 3, 3, 9, 3);
        mover = Check.withRange(6, NONE, 3, 3, 3, 3);
        Check.due("equal from the start", mover.copy(0, 0), 0);
        Check.code("equal from the start", mover, 5 + 16 * 6, NONE, 3, 3, 3, 3);
    }

    private static void leavesBeforeExchange() {
        ReferenceMover mover = Check.withRange(2, NONE, 3, 3, 9, 9);
        Check.due("lower to row 1", mover.copy(-8, 0), 1);
        Check.code("lower to row 1", mover, 5 + 16 * 8, NONE, 1, 3, 3, 9);
        mover = Check.withRange(2, NONE, 3, 3, 9, 9);
        Check.due("lower to row 0", mover.copy(-9, 0), 1);
        Check.code("lower to row 0", mover, LOST);
        mover = Check.withRange(4, NONE, 3, 3, 9, 9);
        Check.due("left to the last column", mover.copy(0, COLUMNS - 3), 1);
        Check.code("left to the last column", mover, 5 + 16, NONE, 3, 9, 9, COLUMNS);
        mover = Check.withRange(4, NONE, 3, 3, 9, 9);
        Check.due("left beyond the last column", mover.copy(0, COLUMNS - 2), 1);
        Check.code("left beyond the last column", mover, LOST);
    }

    private static void wholeColumns() {
        ReferenceMover mover = Check.withRange(16, 2, 1, 5, ROWS, 8);
        Check.due("down", mover.copy(9, 0), 0);
        Check.due("up", mover.copy(-9, 0), 0);
        Check.code("rows stay", mover, 261, 2, 1, 5, ROWS, 8);
        Check.due("along", mover.copy(3, -4), 1);
        Check.code("along", mover, 261, 2, 1, 1, ROWS, 4);
        Check.due("leaves", mover.copy(0, -1), 1);
        Check.code("leaves", mover, LOST);
        mover = Check.withRange(16 + 4 + 2, NONE, 1, 5, ROWS, 8);
        Check.due("exchanged", mover.copy(5, 5), 1);
        Check.code("exchanged", mover, 5 + 16 * (16 + 2 + 1), NONE, 1, 8, ROWS, 10);
        mover = Check.withRange(16, NONE, 1, 1, ROWS, COLUMNS);
        Check.due("all columns leave", mover.copy(0, 1), 1);
        Check.code("all columns leave", mover, LOST);
    }

    private static void wholeRows() {
        ReferenceMover mover = Check.withRange(32, 2, 5, 1, 8, COLUMNS);
        Check.due("along", mover.copy(0, 9), 0);
        Check.due("the other way", mover.copy(0, -9), 0);
        Check.code("columns stay", mover, 517, 2, 5, 1, 8, COLUMNS);
        Check.due("up", mover.copy(-4, 3), 1);
        Check.code("up", mover, 517, 2, 1, 1, 4, COLUMNS);
        Check.due("leaves", mover.copy(-1, 0), 1);
        Check.code("leaves", mover, LOST);
        mover = Check.withRange(32 + 8 + 1, NONE, 5, 1, 8, COLUMNS);
        Check.due("exchanged", mover.copy(5, 5), 1);
        Check.code("exchanged", mover, 5 + 16 * (32 + 2 + 1), NONE, 8, 1, 10, COLUMNS);
    }

    private static void allLinesWithoutTheMark() {
        ReferenceMover mover = Check.withRange(0, NONE, 1, 2, ROWS, 3);
        Check.due("moves", mover.copy(0, 1), 1);
        Check.code("moves", mover, 5, NONE, 1, 3, ROWS, 4);
        Check.due("leaves", mover.copy(1, 0), 1);
        Check.code("leaves", mover, LOST);
        mover = Check.withRange(10, NONE, 1, 2, ROWS, 3);
        Check.due("its rows are fixed", mover.copy(1, 0), 0);
        Check.code("its rows are fixed", mover, 165, NONE, 1, 2, ROWS, 3);
    }

    /** Each mark with each way, against the words of the promise, line by line. */
    private static void everyMark() {
        int[] ways = {-8, -7, -6, -5, -1, 0, 1, 5, 6, 7, 8};
        for (int marks = 0; marks < 16; marks++) {
            for (int down : ways) {
                for (int along : ways) {
                    oneMark(marks, down, along);
                }
            }
        }
    }

    private static void oneMark(int marks, int down, int along) {
        int[][] lines = {
            {3 + ((marks & 2) == 0 ? down : 0), marks & 2}, {9 + ((marks & 8) == 0 ? down : 0), marks & 8},
            {4 + ((marks & 1) == 0 ? along : 0), marks & 1}, {9 + ((marks & 4) == 0 ? along : 0), marks & 4}};
        int[] rows = ordered(lines[0], lines[1]);
        int[] columns = ordered(lines[2], lines[3]);
        int[] want = rows[0] < 1 || columns[0] < 1 ? new int[] {LOST} : new int[] {
            5 + 16 * (columns[2] + 2 * rows[2] + 4 * columns[3] + 8 * rows[3]), 1,
            rows[0], columns[0], rows[1], columns[1]};
        boolean changes = want.length == 1 || rows[0] != 3 || rows[1] != 9
                || columns[0] != 4 || columns[1] != 9 || want[0] != 5 + 16 * marks;
        String what = "marks " + marks + " copy(" + down + ", " + along + ")";
        ReferenceMover mover = Check.withRange(marks, 1, 3, 4, 9, 9);
        Check.due(what, mover.copy(down, along), changes ? 1 : 0);
        Check.code(what, mover, want);
    }

    private static int[] ordered(int[] a, int[] b) {
        int[] low = a[0] <= b[0] ? a : b;
        int[] high = a[0] <= b[0] ? b : a;
        return new int[] {low[0], high[0], low[1] == 0 ? 0 : 1, high[1] == 0 ? 0 : 1};
    }

    private static void refused() {
        ReferenceMover mover = Check.withPlace(0, NONE, 5, 4);
        int[][] bad = {{ROWS, 0}, {-ROWS, 0}, {0, COLUMNS}, {0, -COLUMNS}, {Integer.MIN_VALUE, 0},
            {Integer.MAX_VALUE, 0}, {0, Integer.MIN_VALUE}, {0, Integer.MAX_VALUE}};
        for (int[] b : bad) {
            Check.refused("copy(" + b[0] + ", " + b[1] + ")", mover, () -> mover.copy(b[0], b[1]));
        }
        ReferenceMover empty = new ReferenceMover();
        Check.refused("copy of no code", empty, () -> empty.copy(ROWS, 0));
    }
}
