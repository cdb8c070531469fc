/** Promises 1 to 7: a new object, clear, other, place, range, size, word. */
public final class BuildingTest {
    private static final int NONE = Check.NONE;
    private static final int ROWS = Check.ROWS;
    private static final int COLUMNS = Check.COLUMNS;

    public static void main(String[] args) {
        newObject();
        clear();
        other();
        place();
        placeRefused();
        range();
        rangeOfWholeLines();
        rangeRefused();
        word();
        fullCode();
        roomComesBack();
        Check.end();
    }

    private static void newObject() {
        ReferenceMover mover = new ReferenceMover();
        Check.code("new", mover);
        Check.due("word(0) of no code", mover.word(0), 0);
        Check.due("copy of no code", mover.copy(1, 1), 0);
        Check.due("insert of no code", mover.insert(0, 0, false, 1, 1), 0);
        Check.due("delete of no code", mover.delete(0, 0, false, 1, 1), 0);
        Check.due("move of no code", mover.move(0, 0, 0, 1, 1), 0);
        Check.code("no code stays", mover);
    }

    private static void clear() {
        ReferenceMover mover = Check.withRange(0, 1, 2, 3, 4, 5);
        mover.clear();
        Check.code("clear", mover);
        Check.due("word(0) after clear", mover.word(0), 0);
        mover.clear();
        Check.code("clear of no code", mover);
        Check.yes("other after clear", mover.other(7));
        Check.code("begun again", mover, 7);
    }

    private static void other() {
        ReferenceMover mover = new ReferenceMover();
        int[] good = {0, 1, 2, 3, 6, 15, 16, 19, 22, Check.LOST, Integer.MAX_VALUE,
            -1, -11, -12, -27, -28, Integer.MIN_VALUE, Integer.MIN_VALUE + 4, Integer.MIN_VALUE + 5};
        for (int word : good) {
            Check.yes("other(" + word + ")", mover.other(word));
        }
        int[] bad = {4, 5, 20, 21, 52, 53, 4 + 16 * 47, 5 + 16 * 1000, Integer.MAX_VALUE - 10,
            Integer.MAX_VALUE - 11};
        for (int word : bad) {
            Check.no("other(" + word + ")", mover.other(word));
        }
        Check.code("others", mover, good);
        // Numbers below 0 are one item each, whatever their lowest bits are.
        Check.due("copy of others", mover.copy(1, 1), 0);
        Check.due("insert of others", mover.insert(0, 0, false, 1, 1), 0);
        Check.due("delete of others", mover.delete(0, 0, false, 1, 1), 0);
        Check.due("move of others", mover.move(0, 1, 0, 1, 1), 0);
        Check.code("others stay", mover, good);
    }

    private static void place() {
        ReferenceMover mover = new ReferenceMover();
        Check.yes("the first cell", mover.place(0, NONE, 1, 1));
        Check.yes("the last cell", mover.place(1, 7, ROWS, COLUMNS));
        Check.yes("$ before the row", mover.place(2, 0, 12, 34));
        Check.yes("both $", mover.place(3, 3, 5, 6));
        Check.code("places", mover,
                4, NONE, 1, 1, 20, 7, ROWS, COLUMNS, 36, 0, 12, 34, 52, 3, 5, 6);
    }

    private static void placeRefused() {
        ReferenceMover mover = new ReferenceMover();
        int[][] bad = {{-1, 0, 1, 1}, {4, 0, 1, 1}, {16, 0, 1, 1}, {0, -2, 1, 1}, {0, 8, 1, 1},
            {0, 0, 0, 1}, {0, 0, -1, 1}, {0, 0, ROWS + 1, 1}, {0, 0, 1, 0}, {0, 0, 1, -1},
            {0, 0, 1, COLUMNS + 1}, {Integer.MIN_VALUE, 0, 1, 1}, {Integer.MAX_VALUE, 0, 1, 1},
            {0, Integer.MIN_VALUE, 1, 1}, {0, Integer.MAX_VALUE, 1, 1},
            {0, 0, Integer.MIN_VALUE, 1}, {0, 0, Integer.MAX_VALUE, 1},
            {0, 0, 1, Integer.MIN_VALUE}, {0, 0, 1, Integer.MAX_VALUE}};
        for (int[] b : bad) {
            Check.no("place" + java.util.Arrays.toString(b), mover.place(b[0], b[1], b[2], b[3]));
        }
        Check.code("no bad place", mover);
    }

    private static void range() {
        ReferenceMover mover = new ReferenceMover();
        Check.yes("one cell", mover.range(0, NONE, 1, 1, 1, 1));
        Check.yes("all cells", mover.range(15, 7, 1, 1, ROWS, COLUMNS));
        Check.yes("the last cell", mover.range(9, 0, ROWS, COLUMNS, ROWS, COLUMNS));
        Check.yes("some", mover.range(6, 2, 3, 4, 5, 6));
        Check.code("ranges", mover,
                5, NONE, 1, 1, 1, 1, 245, 7, 1, 1, ROWS, COLUMNS,
                149, 0, ROWS, COLUMNS, ROWS, COLUMNS, 101, 2, 3, 4, 5, 6);
    }

    private static void rangeOfWholeLines() {
        ReferenceMover mover = new ReferenceMover();
        Check.yes("columns", mover.range(16, NONE, 1, 2, ROWS, 3));
        Check.yes("all columns", mover.range(31, 1, 1, 1, ROWS, COLUMNS));
        Check.yes("rows", mover.range(32, NONE, 2, 1, 3, COLUMNS));
        Check.yes("all rows", mover.range(47, 1, 1, 1, ROWS, COLUMNS));
        Check.no("columns without the first row", mover.range(16, NONE, 2, 2, ROWS, 3));
        Check.no("columns without the last row", mover.range(16, NONE, 1, 2, ROWS - 1, 3));
        Check.no("columns, but all columns", mover.range(31, NONE, 2, 1, 3, COLUMNS));
        Check.no("rows without the first column", mover.range(32, NONE, 2, 2, 3, COLUMNS));
        Check.no("rows without the last column", mover.range(47, NONE, 2, 1, 3, COLUMNS - 1));
        Check.no("rows, but all rows", mover.range(32, NONE, 1, 2, ROWS, 3));
        Check.no("columns and rows", mover.range(48, NONE, 1, 1, ROWS, COLUMNS));
        Check.code("whole lines", mover,
                261, NONE, 1, 2, ROWS, 3, 501, 1, 1, 1, ROWS, COLUMNS,
                517, NONE, 2, 1, 3, COLUMNS, 757, 1, 1, 1, ROWS, COLUMNS);
    }

    private static void rangeRefused() {
        ReferenceMover mover = new ReferenceMover();
        int[][] bad = {{-1, 0, 1, 1, 2, 2}, {48, 0, 1, 1, 2, 2}, {63, 0, 1, 1, ROWS, COLUMNS},
            {64, 0, 1, 1, 2, 2}, {0, -2, 1, 1, 2, 2}, {0, 8, 1, 1, 2, 2},
            {0, 0, 0, 1, 2, 2}, {0, 0, 1, 0, 2, 2}, {0, 0, 1, 1, ROWS + 1, 2},
            {0, 0, 1, 1, 2, COLUMNS + 1}, {0, 0, 3, 1, 2, 2}, {0, 0, 1, 3, 2, 2},
            {0, 0, 1, 1, 0, 2}, {0, 0, 1, 1, 2, 0}, {0, 0, ROWS + 1, 1, ROWS + 1, 1},
            {0, 0, 1, COLUMNS + 1, 1, COLUMNS + 1},
            {Integer.MIN_VALUE, 0, 1, 1, 2, 2}, {Integer.MAX_VALUE, 0, 1, 1, 2, 2},
            {0, 0, Integer.MIN_VALUE, 1, 2, 2}, {0, 0, 1, Integer.MIN_VALUE, 2, 2},
            {0, 0, 1, 1, Integer.MAX_VALUE, 2}, {0, 0, 1, 1, 2, Integer.MAX_VALUE}};
        for (int[] b : bad) {
            Check.no("range" + java.util.Arrays.toString(b),
                    mover.range(b[0], b[1], b[2], b[3], b[4], b[5]));
        }
        Check.code("no bad range", mover);
    }

    private static void word() {
        ReferenceMover mover = Check.withPlace(0, NONE, 8, 9);
        Check.due("size", mover.size(), 4);
        Check.due("word(3)", mover.word(3), 9);
        int[] outside = {-1, 4, 5, 999, 1000, 1001, Integer.MIN_VALUE, Integer.MAX_VALUE};
        for (int k : outside) {
            Check.due("word(" + k + ")", mover.word(k), 0);
        }
        // What was there before a place was lost is there no more.
        Check.due("lost", mover.copy(-8, 0), 1);
        for (int k = 1; k < 5; k++) {
            Check.due("word(" + k + ") behind the lost one", mover.word(k), 0);
        }
    }

    /** A code of so many ranges, of six numbers each. */
    private static ReferenceMover withRanges(int ranges) {
        ReferenceMover mover = new ReferenceMover();
        for (int i = 0; i < ranges; i++) {
            Check.yes("range " + i, mover.range(0, NONE, 2, 2, 3, 3));
        }
        return mover;
    }

    private static void fullCode() {
        ReferenceMover mover = withRanges(165);
        Check.yes("place at 990", mover.place(0, NONE, 2, 2));
        Check.yes("range at 994", mover.range(15, 6, 2, 3, 4, 5));
        Check.due("full", mover.size(), 1000);
        Check.due("the last word", mover.word(999), 5);
        Check.due("behind the last word", mover.word(1000), 0);
        Check.no("other at 1000", mover.other(1));
        Check.no("place at 1000", mover.place(0, NONE, 1, 1));
        Check.no("range at 1000", mover.range(0, NONE, 1, 1, 1, 1));
        Check.due("still full", mover.size(), 1000);
        Check.due("copy of the full code", mover.copy(1, 1), 166);
        Check.due("a word that was moved", mover.word(994 - 1), 3);
        Check.due("the fixed one stayed", mover.word(999), 5);

        mover = withRanges(165);
        Check.yes("place at 990", mover.place(0, NONE, 2, 2));
        Check.yes("other at 994", mover.other(1));
        Check.no("range at 995", mover.range(0, NONE, 1, 1, 1, 1));
        Check.due("size 995", mover.size(), 995);
        Check.yes("other at 995", mover.other(1));
        Check.yes("place at 996", mover.place(0, NONE, 1, 9));
        Check.due("size 1000", mover.size(), 1000);
        Check.due("the last word", mover.word(999), 9);

        mover = withRanges(166);
        Check.yes("other at 996", mover.other(1));
        Check.no("place at 997", mover.place(0, NONE, 1, 1));
        Check.yes("other at 997", mover.other(2));
        Check.yes("other at 998", mover.other(3));
        Check.yes("other at 999", mover.other(-7));
        Check.no("other at 1000", mover.other(-8));
        Check.due("size 1000", mover.size(), 1000);
        Check.due("the last word", mover.word(999), -7);
        mover.clear();
        Check.due("clear of the full code", mover.size(), 0);
    }

    private static void roomComesBack() {
        ReferenceMover mover = withRanges(166);
        Check.yes("place at 996", mover.place(3, NONE, 2, 2));
        Check.due("all ranges lost", mover.copy(-2, 0), 166);
        Check.due("size", mover.size(), 170);
        Check.due("the last lost one", mover.word(165), Check.LOST);
        Check.due("the place behind it", mover.word(166), 52);
        Check.yes("range", mover.range(0, NONE, 2, 2, 3, 3));
        Check.due("size", mover.size(), 176);
    }
}
