/** Promises 11 and 12: rectangle and move. */
public final class MoveTest {
    private static final int NONE = Check.NONE;
    private static final int LOST = Check.LOST;
    private static final int ROWS = Check.ROWS;
    private static final int COLUMNS = Check.COLUMNS;

    public static void main(String[] args) {
        firstRectangle();
        rectangleRefused();
        clearKeepsTheRectangle();
        edgesOfTheRectangle();
        edgesOfTheTarget();
        overlap();
        onItself();
        rangesPartlyIn();
        sheetsOfItems();
        marksStay();
        wholeColumns();
        severalItems();
        everySheet();
        refused();
        Check.end();
    }

    private static ReferenceMover cutting(int sheet, int top, int left, int bottom, int right) {
        ReferenceMover mover = new ReferenceMover();
        Check.yes("rectangle", mover.rectangle(sheet, top, left, bottom, right));
        return mover;
    }

    private static void firstRectangle() {
        ReferenceMover mover = new ReferenceMover();
        mover.place(0, NONE, 1, 1);
        mover.place(0, NONE, 1, 2);
        mover.place(0, NONE, 2, 1);
        mover.place(0, 1, 1, 1);
        mover.place(0, 0, 5, 6);
        mover.place(0, 0, 5, 7);
        mover.place(0, 0, 6, 6);
        Check.due("first rectangle", mover.move(0, 0, 0, 5, 6), 2);
        Check.code("first rectangle", mover, 4, NONE, 5, 6, 4, NONE, 1, 2, 4, NONE, 2, 1, 4, 1, 1, 1,
                LOST, 4, 0, 5, 7, 4, 0, 6, 6);
        Check.due("to the last cell", new ReferenceMover().move(7, 7, 7, ROWS, COLUMNS), 0);
    }

    private static void rectangleRefused() {
        ReferenceMover mover = cutting(2, 3, 3, 4, 4);
        int[][] bad = {{-1, 1, 1, 2, 2}, {8, 1, 1, 2, 2}, {0, 0, 1, 2, 2}, {0, 1, 0, 2, 2},
            {0, 1, 1, ROWS + 1, 2}, {0, 1, 1, 2, COLUMNS + 1}, {0, 3, 1, 2, 2}, {0, 1, 3, 2, 2},
            {0, 1, 1, 0, 2}, {0, 1, 1, 2, 0}, {Integer.MIN_VALUE, 1, 1, 2, 2},
            {Integer.MAX_VALUE, 1, 1, 2, 2}, {0, Integer.MIN_VALUE, 1, 2, 2},
            {0, 1, Integer.MIN_VALUE, 2, 2}, {0, 1, 1, Integer.MAX_VALUE, 2},
            {0, 1, 1, 2, Integer.MAX_VALUE}};
        for (int[] b : bad) {
            Check.no("rectangle" + java.util.Arrays.toString(b),
                    mover.rectangle(b[0], b[1], b[2], b[3], b[4]));
        }
        mover.place(0, 2, 3, 3);
        mover.place(0, 2, 4, 4);
        mover.place(0, 0, 1, 1);
        Check.due("the one before stays", mover.move(0, 0, 2, 13, 23), 2);
        Check.code("the one before stays", mover, 4, 2, 13, 23, 4, 2, 14, 24, 4, 0, 1, 1);
        Check.yes("one cell", mover.rectangle(7, ROWS, COLUMNS, ROWS, COLUMNS));
        Check.yes("all cells", mover.rectangle(7, 1, 1, ROWS, COLUMNS));
    }

    private static void clearKeepsTheRectangle() {
        ReferenceMover mover = cutting(2, 3, 3, 4, 4);
        mover.clear();
        mover.place(0, 2, 4, 4);
        Check.due("kept over clear", mover.move(0, 0, 2, 4, 3), 1);
        Check.code("kept over clear", mover, 4, 2, 5, 4);
        mover = cutting(2, 3, 3, 4, 4);
        mover.place(0, 2, 3, 3);
        Check.due("there", mover.move(0, 0, 2, 10, 10), 1);
        Check.due("the rectangle does not move", mover.move(0, 0, 2, 20, 20), 0);
        Check.code("the rectangle does not move", mover, 4, 2, 10, 10);
    }

    private static void edgesOfTheRectangle() {
        for (int row = 4; row <= 8; row++) {
            for (int column = 9; column <= 12; column++) {
                ReferenceMover mover = cutting(1, 5, 10, 7, 11);
                mover.place(0, 1, row, column);
                boolean in = row >= 5 && row <= 7 && column >= 10 && column <= 11;
                String what = "place " + row + ", " + column;
                Check.due(what, mover.move(0, 0, 1, 105, 110), in ? 1 : 0);
                Check.code(what, mover, 4, 1, in ? row + 100 : row, in ? column + 100 : column);
            }
        }
    }

    private static void edgesOfTheTarget() {
        for (int row = 4; row <= 8; row++) {
            for (int column = 9; column <= 12; column++) {
                ReferenceMover mover = cutting(1, 105, 110, 107, 111);
                mover.place(0, 1, row, column);
                boolean in = row >= 5 && row <= 7 && column >= 10 && column <= 11;
                String what = "place under " + row + ", " + column;
                Check.due(what, mover.move(0, 0, 1, 5, 10), in ? 1 : 0);
                if (in) {
                    Check.code(what, mover, LOST);
                } else {
                    Check.code(what, mover, 4, 1, row, column);
                }
            }
        }
    }

    private static void overlap() {
        ReferenceMover mover = cutting(0, 1, 1, 3, 3);
        mover.place(0, 0, 2, 2);
        mover.place(0, 0, 1, 1);
        mover.place(0, 0, 4, 4);
        mover.range(0, 0, 2, 2, 4, 4);
        mover.range(0, 0, 2, 2, 3, 3);
        mover.range(0, 0, 1, 1, 4, 4);
        Check.due("what is cut and covered moves", mover.move(0, 0, 0, 2, 2), 5);
        Check.code("what is cut and covered moves", mover, 4, 0, 3, 3, 4, 0, 2, 2, LOST, LOST,
                5, 0, 3, 3, 4, 4, 5, 0, 1, 1, 4, 4);
    }

    private static void onItself() {
        ReferenceMover mover = cutting(0, 1, 1, 3, 3);
        mover.place(0, NONE, 2, 2);
        mover.range(0, 0, 1, 1, 3, 3);
        Check.due("put down where it was", mover.move(0, 0, 0, 1, 1), 0);
        Check.code("put down where it was", mover, 4, NONE, 2, 2, 5, 0, 1, 1, 3, 3);
        Check.due("with another home", mover.move(0, 4, 0, 1, 1), 1);
        Check.code("with another home", mover, 4, 0, 2, 2, 5, 0, 1, 1, 3, 3);
    }

    private static void rangesPartlyIn() {
        int[][] whole = {{5, 5, 7, 7}, {5, 5, 5, 5}, {6, 5, 7, 6}, {7, 7, 7, 7}};
        int[][] partly = {{4, 5, 7, 7}, {5, 4, 7, 7}, {5, 5, 8, 7}, {5, 5, 7, 8}, {4, 4, 8, 8},
            {8, 5, 9, 7}, {1, 6, 9, 6}};
        for (int[] r : whole) {
            ReferenceMover mover = cutting(1, 5, 5, 7, 7);
            mover.range(0, 1, r[0], r[1], r[2], r[3]);
            Check.due("wholly in", mover.move(0, 0, 1, 20, 30), 1);
            Check.code("wholly in", mover, 5, 1, r[0] + 15, r[1] + 25, r[2] + 15, r[3] + 25);
            mover = cutting(1, 20, 30, 22, 32);
            mover.range(0, 1, r[0], r[1], r[2], r[3]);
            Check.due("wholly covered", mover.move(0, 0, 1, 5, 5), 1);
            Check.code("wholly covered", mover, LOST);
        }
        for (int[] r : partly) {
            ReferenceMover mover = cutting(1, 5, 5, 7, 7);
            mover.range(0, 1, r[0], r[1], r[2], r[3]);
            Check.due("partly in", mover.move(0, 0, 1, 20, 30), 0);
            Check.code("partly in", mover, 5, 1, r[0], r[1], r[2], r[3]);
            mover = cutting(1, 20, 30, 22, 32);
            mover.range(0, 1, r[0], r[1], r[2], r[3]);
            Check.due("partly covered", mover.move(0, 0, 1, 5, 5), 0);
            Check.code("partly covered", mover, 5, 1, r[0], r[1], r[2], r[3]);
        }
    }

    private static void sheetsOfItems() {
        ReferenceMover mover = cutting(1, 1, 1, 2, 2);
        mover.place(0, NONE, 1, 1);
        Check.due("to another sheet, home stays", mover.move(1, 1, 3, 1, 1), 1);
        Check.code("to another sheet, home stays", mover, 4, 3, 1, 1);
        mover = cutting(1, 1, 1, 2, 2);
        mover.place(0, NONE, 1, 1);
        mover.place(0, NONE, 9, 9);
        mover.range(0, NONE, 8, 8, 9, 9);
        Check.due("the home goes along", mover.move(1, 3, 3, 1, 1), 2);
        Check.code("the home goes along", mover, 4, NONE, 1, 1, 4, 1, 9, 9, 5, 1, 8, 8, 9, 9);
        mover = cutting(1, 1, 1, 2, 2);
        mover.place(0, 1, 1, 1);
        Check.due("one with a sheet keeps one", mover.move(1, 3, 3, 1, 1), 1);
        Check.code("one with a sheet keeps one", mover, 4, 3, 1, 1);
        mover = cutting(1, 1, 1, 2, 2);
        mover.place(0, 3, 5, 5);
        Check.due("even the new home's", mover.move(1, 3, 1, 1, 1), 0);
        Check.code("even the new home's", mover, 4, 3, 5, 5);
        mover = cutting(1, 1, 1, 2, 2);
        mover.place(0, NONE, 1, 1);
        mover.place(0, NONE, 5, 5);
        Check.due("covered on the old home", mover.move(4, 5, 4, 5, 5), 2);
        Check.code("covered on the old home", mover, 4, 4, 1, 1, LOST);
    }

    private static void marksStay() {
        for (int marks = 0; marks < 16; marks++) {
            ReferenceMover mover = cutting(1, 1, 1, 9, 9);
            mover.range(marks, 1, 2, 3, 4, 5);
            mover.place(marks & 3, 1, 2, 3);
            Check.due("$ do not hold", mover.move(0, 0, 2, 11, 21), 2);
            Check.code("$ do not hold", mover, 5 + 16 * marks, 2, 12, 23, 14, 25,
                    4 + 16 * (marks & 3), 2, 12, 23);
        }
    }

    private static void wholeColumns() {
        ReferenceMover mover = cutting(1, 1, 3, ROWS, 5);
        mover.range(16 + 5, 1, 1, 4, ROWS, 5);
        mover.range(16, 1, 1, 8, ROWS, 9);
        mover.range(32, 1, 4, 1, 5, COLUMNS);
        Check.due("columns", mover.move(0, 0, 1, 1, 7), 2);
        Check.code("columns", mover, 5 + 16 * 21, 1, 1, 8, ROWS, 9, LOST, 517, 1, 4, 1, 5, COLUMNS);
        mover = cutting(1, 4, 1, 5, COLUMNS);
        mover.range(32 + 10, 1, 4, 1, 5, COLUMNS);
        Check.due("rows", mover.move(0, 0, 6, ROWS - 1, 1), 1);
        Check.code("rows", mover, 5 + 16 * 42, 6, ROWS - 1, 1, ROWS, COLUMNS);
    }

    private static void severalItems() {
        ReferenceMover mover = cutting(0, 1, 1, 2, 2);
        mover.other(-12);
        mover.range(0, 0, 5, 5, 6, 6);
        mover.other(LOST);
        mover.range(15, NONE, 1, 1, 2, 2);
        mover.place(1, 0, 6, 6);
        mover.place(2, NONE, 7, 7);
        mover.other(-11);
        Check.due("several", mover.move(0, 0, 0, 5, 5), 3);
        Check.code("several", mover, -12, LOST, LOST, 245, NONE, 5, 5, 6, 6, LOST, 36, NONE, 7, 7, -11);
    }

    /** Each home, new home and target sheet, against the words of the promise. */
    private static void everySheet() {
        for (int home = 0; home < 4; home++) {
            for (int newHome = 0; newHome < 4; newHome++) {
                for (int sheet = 0; sheet < 4; sheet++) {
                    for (int item = NONE; item < 4; item++) {
                        oneSheet(home, newHome, sheet, item);
                    }
                }
            }
        }
    }

    private static void oneSheet(int home, int newHome, int sheet, int item) {
        int on = item == NONE ? home : item;
        String what = "move(" + home + ", " + newHome + ", " + sheet + ") of one on " + item;

        int to = on == 2 ? sheet : on;
        int named = item == NONE && to == newHome ? NONE : to;
        ReferenceMover cut = cutting(2, 5, 5, 6, 6);
        cut.place(0, item, 6, 5);
        int row = on == 2 ? 16 : 6;
        Check.due(what, cut.move(home, newHome, sheet, 15, 5), row != 6 || named != item ? 1 : 0);
        Check.code(what, cut, 4, named, row, 5);

        ReferenceMover covered = cutting(2, 5, 5, 6, 6);
        covered.range(0, item, 15, 5, 16, 5);
        named = item == NONE && on == newHome ? NONE : on;
        int changed = on == sheet || named != item ? 1 : 0;
        Check.due(what + ", covered", covered.move(home, newHome, sheet, 15, 5), changed);
        if (on == sheet) {
            Check.code(what + ", covered", covered, LOST);
        } else {
            Check.code(what + ", covered", covered, 5, named, 15, 5, 16, 5);
        }
    }

    private static void refused() {
        int[][] bad = {{-1, 0, 0, 1, 1}, {8, 0, 0, 1, 1}, {0, -1, 0, 1, 1}, {0, 8, 0, 1, 1},
            {0, 0, -1, 1, 1}, {0, 0, 8, 1, 1}, {0, 0, 0, 0, 1}, {0, 0, 0, 1, 0},
            {0, 0, 0, ROWS - 1, 1}, {0, 0, 0, ROWS, 1}, {0, 0, 0, ROWS + 1, 1},
            {0, 0, 0, 1, COLUMNS - 2}, {0, 0, 0, 1, COLUMNS}, {0, 0, 0, 1, COLUMNS + 1},
            {Integer.MIN_VALUE, 0, 0, 1, 1}, {0, Integer.MAX_VALUE, 0, 1, 1},
            {0, 0, Integer.MIN_VALUE, 1, 1}, {0, 0, 0, Integer.MIN_VALUE, 1},
            {0, 0, 0, Integer.MAX_VALUE, 1}, {0, 0, 0, 1, Integer.MIN_VALUE},
            {0, 0, 0, 1, Integer.MAX_VALUE}};
        ReferenceMover mover = cutting(0, 2, 2, 4, 5);
        mover.place(0, NONE, 2, 2);
        for (int[] b : bad) {
            Check.refused("move" + java.util.Arrays.toString(b), mover,
                    () -> mover.move(b[0], b[1], b[2], b[3], b[4]));
        }
        Check.due("just on the sheet", mover.move(0, 0, 0, ROWS - 2, COLUMNS - 3), 1);
        Check.code("just on the sheet", mover, 4, NONE, ROWS - 2, COLUMNS - 3);
        ReferenceMover single = new ReferenceMover();
        Check.refused("one cell beyond", single, () -> single.move(0, 0, 0, ROWS + 1, 1));
        Check.refused("one cell beyond", single, () -> single.move(0, 0, 0, 1, COLUMNS + 1));
    }
}
