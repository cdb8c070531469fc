import java.util.Arrays;

/** The edges of the promises 11 and 12, sentence by sentence. */
public final class MoveEdgesTest {
    private static final int NONE = Check.NONE;
    private static final int LOST = Check.LOST;
    private static final int ROWS = Check.ROWS;
    private static final int COLUMNS = Check.COLUMNS;
    private static final int LEAST = Integer.MIN_VALUE;
    private static final int MOST = Integer.MAX_VALUE;

    public static void main(String[] args) {
        firstRectangleIsOneCell();
        rectangleHasASheet();
        rectangleHasRows();
        rectangleHasColumns();
        rectangleStays();
        homesHaveLimits();
        targetHasLimits();
        rectangleMustLieOnTheSheet();
        placeInTheRectangleMoves();
        rangeWhollyInTheRectangleMoves();
        whatIsCoveredIsLost();
        whatIsCutIsNotLost();
        sheetsOfItems();
        whatIsNotChangedIsNotCounted();
        wholeSheetMoves();
        wholeLinesMove();
        noCode();
        fullCode();
        Check.end();
    }

    private static int rectangle(ReferenceMover mover, int... a) {
        return mover.rectangle(a[0], a[1], a[2], a[3], a[4]) ? 1 : 0;
    }

    /** The rectangle is taken, whatever the code is, and the code stays. */
    private static void rectangleTaken(int... a) {
        String what = "rectangle" + Arrays.toString(a);
        for (Before before : Before.values()) {
            Check.Maker maker = () -> {
                ReferenceMover mover = before.make();
                Check.due(what + " on " + before, rectangle(mover, a), 1);
                return mover;
            };
            Check.longCode(what + " on " + before, maker, before.code());
            Check.rectangle(what + " on " + before, maker.make(), a[0], a[1], a[2], a[3], a[4]);
        }
    }

    /** False if there is none such (then the one before stays). */
    private static void rectangleRefused(int... a) {
        Check.answersFalse("rectangle" + Arrays.toString(a), m -> rectangle(m, a));
    }

    private static void refused(int home, int newHome, int sheet, int row, int column) {
        Check.throwsIllegal("move(" + home + ", " + newHome + ", " + sheet + ", " + row + ", " + column
                + ")", m -> m.move(home, newHome, sheet, row, column));
    }

    private static ReferenceMover cutting(int sheet, int top, int left, int bottom, int right) {
        ReferenceMover mover = new ReferenceMover();
        Check.yes("rectangle", mover.rectangle(sheet, top, left, bottom, right));
        return mover;
    }

    /** At first it is sheet 0, row 1, column 1 alone. */
    private static void firstRectangleIsOneCell() {
        Check.rectangle("a new object", new ReferenceMover(), 0, 1, 1, 1, 1);
        ReferenceMover mover = new ReferenceMover();
        Check.no("refused on a new object", mover.rectangle(8, 5, 5, 6, 6));
        Check.rectangle("refused on a new object", mover, 0, 1, 1, 1, 1);
        mover = new ReferenceMover();
        Check.due("one cell fits in the last one", mover.move(0, 0, 0, ROWS, COLUMNS), 0);
        Check.rectangle("after a move", mover, 0, 1, 1, 1, 1);
    }

    private static void rectangleHasASheet() {
        for (int sheet = 0; sheet <= 7; sheet++) {
            rectangleTaken(sheet, 2, 3, 4, 5);
        }
        for (int sheet : new int[] {NONE, -2, 8, 9, LEAST, MOST}) {
            rectangleRefused(sheet, 2, 3, 4, 5);
        }
    }

    private static void rectangleHasRows() {
        for (int[] rows : new int[][] {{1, 1}, {1, 2}, {2, 2}, {1, ROWS}, {2, ROWS}, {1, ROWS - 1},
            {ROWS, ROWS}, {ROWS - 1, ROWS}, {COLUMNS + 1, COLUMNS + 2}}) {
            rectangleTaken(6, rows[0], 3, rows[1], 5);
        }
        for (int[] rows : new int[][] {{0, 0}, {0, 1}, {-1, 4}, {2, 1}, {1, 0}, {5, 4}, {ROWS, ROWS - 1},
            {1, ROWS + 1}, {ROWS, ROWS + 1}, {ROWS + 1, ROWS + 1}, {LEAST, 4}, {LEAST, LEAST},
            {LEAST, MOST}, {4, MOST}, {MOST, MOST}, {4, LEAST}, {MOST, 4}, {MOST, LEAST}}) {
            rectangleRefused(6, rows[0], 3, rows[1], 5);
        }
    }

    private static void rectangleHasColumns() {
        for (int[] columns : new int[][] {{1, 1}, {1, 2}, {2, 2}, {1, COLUMNS}, {2, COLUMNS},
            {1, COLUMNS - 1}, {COLUMNS, COLUMNS}, {COLUMNS - 1, COLUMNS}}) {
            rectangleTaken(6, 3, columns[0], 5, columns[1]);
        }
        for (int[] columns : new int[][] {{0, 0}, {0, 1}, {-1, 4}, {2, 1}, {1, 0}, {5, 4},
            {COLUMNS, COLUMNS - 1}, {1, COLUMNS + 1}, {COLUMNS, COLUMNS + 1},
            {COLUMNS + 1, COLUMNS + 1}, {1, ROWS}, {LEAST, 4}, {LEAST, LEAST}, {LEAST, MOST}, {4, MOST},
            {MOST, MOST}, {4, LEAST}, {MOST, 4}, {MOST, LEAST}}) {
            rectangleRefused(6, 3, columns[0], 5, columns[1]);
        }
        rectangleTaken(6, 1, 1, ROWS, COLUMNS);
        rectangleTaken(6, 1, 1, 1, 1);
        rectangleTaken(6, ROWS, COLUMNS, ROWS, COLUMNS);
    }

    /** The rectangle that move cuts: no call but rectangle itself is said to change it. */
    private static void rectangleStays() {
        ReferenceMover mover = Before.SOME.make();
        mover.copy(1, 1);
        mover.insert(3, 3, false, 1, 2);
        mover.delete(3, 3, true, 1, 2);
        mover.move(3, 3, 3, 50, 60);
        mover.move(3, 2, 1, 5, 6);
        mover.other(1);
        mover.place(0, 1, 2, 3);
        mover.range(0, 1, 2, 3, 4, 5);
        mover.size();
        mover.word(0);
        mover.clear();
        Before.SOME.checkRectangle("after all other calls", mover);
        mover = Before.SOME.make();
        Check.yes("rectangle", mover.rectangle(1, 1, 1, 9, 9));
        Check.yes("rectangle", mover.rectangle(2, 3, 4, 5, 6));
        Check.rectangle("the last one counts", mover, 2, 3, 4, 5, 6);
    }

    /** IllegalArgumentException: there is no such home (the one that was, or the one that is then). */
    private static void homesHaveLimits() {
        for (int home : new int[] {NONE, -2, 8, 9, LEAST, MOST}) {
            refused(home, 0, 0, 1, 1);
            refused(0, home, 0, 1, 1);
            refused(home, home, 0, 1, 1);
        }
        for (int home = 0; home <= 7; home++) {
            ReferenceMover mover = cutting(home, 5, 5, 6, 6);
            mover.place(0, NONE, 6, 6);
            Check.due("home " + home, mover.move(home, home, home, 10, 10), 1);
            Check.code("home " + home, mover, 4, NONE, 11, 11);
            Check.due("new home " + home, mover.move(7 - home, home, home, 20, 20), 1);
            Check.code("new home " + home, mover, 4, 7 - home, 11, 11);
        }
    }

    /** IllegalArgumentException: there is no such sheet, row or column. */
    private static void targetHasLimits() {
        for (int sheet : new int[] {NONE, -2, 8, 9, LEAST, MOST}) {
            refused(0, 0, sheet, 1, 1);
        }
        for (int row : new int[] {0, -1, ROWS + 1, LEAST, LEAST + 1, MOST, MOST - 1}) {
            refused(0, 0, 0, row, 1);
        }
        for (int column : new int[] {0, -1, COLUMNS + 1, ROWS, LEAST, LEAST + 1, MOST, MOST - 1}) {
            refused(0, 0, 0, 1, column);
        }
        refused(-1, 8, 8, 0, 0);
        refused(LEAST, MOST, LEAST, MOST, LEAST);
        for (int sheet = 0; sheet <= 7; sheet++) {
            ReferenceMover mover = Check.withPlace(0, 0, 1, 1);
            Check.due("sheet " + sheet, mover.move(7, 7, sheet, ROWS, COLUMNS), 1);
            Check.code("sheet " + sheet, mover, 4, sheet, ROWS, COLUMNS);
            mover = cutting(7 - sheet, ROWS, COLUMNS, ROWS, COLUMNS);
            mover.place(0, 7 - sheet, ROWS, COLUMNS);
            Check.due("back from sheet " + sheet, mover.move(0, 0, sheet, 1, 1), 1);
            Check.code("back from sheet " + sheet, mover, 4, sheet, 1, 1);
        }
    }

    /** IllegalArgumentException: not all of the rectangle would lie on the sheet. */
    private static void rectangleMustLieOnTheSheet() {
        int[][] shapes = {{1, 1}, {1, 2}, {2, 1}, {2, 2}, {3, 5}, {ROWS, 1}, {1, COLUMNS},
            {ROWS - 1, COLUMNS - 1}, {ROWS, COLUMNS}};
        for (int[] shape : shapes) {
            int height = shape[0];
            int width = shape[1];
            int row = ROWS - height + 1;
            int column = COLUMNS - width + 1;
            fits(height, width, row, column, true);
            fits(height, width, 1, 1, true);
            fits(height, width, row + 1, column, false);
            fits(height, width, row, column + 1, false);
            fits(height, width, row + 1, column + 1, false);
            fits(height, width, row + 1, 1, false);
            fits(height, width, 1, column + 1, false);
        }
        // The last rectangle of three rows and columns, which is that of the full code.
        for (int row : new int[] {ROWS - 1, ROWS}) {
            Check.throwsIllegal("row " + row, Before.FULL, m -> m.move(0, 0, 0, row, 1));
            Check.throwsIllegal("row " + row, Before.SOME, m -> m.move(3, 3, 0, row, 1));
        }
        for (int column : new int[] {COLUMNS - 1, COLUMNS}) {
            Check.throwsIllegal("column " + column, Before.FULL, m -> m.move(0, 0, 0, 1, column));
            Check.throwsIllegal("column " + column, Before.SOME, m -> m.move(3, 3, 0, 1, column));
        }
        Check.throwsIllegal("column of four", Before.SOME, m -> m.move(3, 3, 0, 1, COLUMNS - 2));
    }

    private static void fits(int height, int width, int row, int column, boolean fits) {
        String what = height + " * " + width + " put down at " + row + ", " + column;
        int top = ROWS - height + 1;
        int left = COLUMNS - width + 1;
        ReferenceMover mover = cutting(1, top, left, ROWS, COLUMNS);
        mover.range(0, 1, top, left, ROWS, COLUMNS);
        if (fits) {
            Check.due(what, mover.move(0, 0, 2, row, column), 1);
            Check.code(what, mover, 5, 2, row, column, row + height - 1, column + width - 1);
        } else {
            Check.refused(what, mover, () -> mover.move(0, 0, 2, row, column));
            Check.rectangle(what, mover, 1, top, left, ROWS, COLUMNS);
        }
    }

    /** A place in the rectangle moves with it. */
    private static void placeInTheRectangleMoves() {
        for (int row = 19; row <= 24; row++) {
            for (int column = 29; column <= 33; column++) {
                boolean in = row >= 20 && row <= 23 && column >= 30 && column <= 32;
                for (int marks = 0; marks <= 3; marks++) {
                    ReferenceMover mover = cutting(4, 20, 30, 23, 32);
                    mover.place(marks, 4, row, column);
                    mover.place(marks, 3, row, column);
                    String what = "place " + row + ", " + column;
                    Check.due(what, mover.move(0, 0, 4, 40, 10), in ? 1 : 0);
                    Check.code(what, mover, 4 + 16 * marks, 4, in ? row + 20 : row,
                            in ? column - 20 : column, 4 + 16 * marks, 3, row, column);
                }
            }
        }
    }

    /** Or a range that is wholly in it; and of the others one that lies wholly below it is LOST. */
    private static void rangeWhollyInTheRectangleMoves() {
        for (int top = 18; top <= 22; top++) {
            for (int bottom = top; bottom <= 24; bottom++) {
                for (int left = 28; left <= 32; left++) {
                    for (int right = left; right <= 34; right++) {
                        oneRange(top, left, bottom, right);
                    }
                }
            }
        }
    }

    private static void oneRange(int top, int left, int bottom, int right) {
        String what = "range " + top + ", " + left + ", " + bottom + ", " + right;
        boolean in = top >= 20 && bottom <= 22 && left >= 30 && right <= 32;
        ReferenceMover mover = cutting(4, 20, 30, 22, 32);
        mover.range(9, 4, top, left, bottom, right);
        mover.range(9, 3, top, left, bottom, right);
        Check.due(what, mover.move(0, 0, 4, 10, 60), in ? 1 : 0);
        int down = in ? -10 : 0;
        int along = in ? 30 : 0;
        Check.code(what, mover, 149, 4, top + down, left + along, bottom + down, right + along,
                149, 3, top, left, bottom, right);

        mover = cutting(5, 1, 1, 3, 3);
        mover.range(9, 3, top, left, bottom, right);
        mover.range(9, 4, top, left, bottom, right);
        Check.due(what + " below", mover.move(0, 0, 4, 20, 30), in ? 1 : 0);
        if (in) {
            Check.code(what + " below", mover, 149, 3, top, left, bottom, right, LOST);
        } else {
            Check.code(what + " below", mover, 149, 3, top, left, bottom, right,
                    149, 4, top, left, bottom, right);
        }
    }

    /** Of the others one that lies wholly where the cells are put down is LOST. */
    private static void whatIsCoveredIsLost() {
        for (int row = 19; row <= 24; row++) {
            for (int column = 29; column <= 33; column++) {
                boolean in = row >= 20 && row <= 23 && column >= 30 && column <= 32;
                for (int marks = 0; marks <= 3; marks++) {
                    ReferenceMover mover = cutting(5, 1, 1, 4, 3);
                    mover.place(marks, 3, row, column);
                    mover.place(marks, 4, row, column);
                    String what = "place below " + row + ", " + column;
                    Check.due(what, mover.move(0, 0, 4, 20, 30), in ? 1 : 0);
                    if (in) {
                        Check.code(what, mover, 4 + 16 * marks, 3, row, column, LOST);
                    } else {
                        Check.code(what, mover, 4 + 16 * marks, 3, row, column,
                                4 + 16 * marks, 4, row, column);
                    }
                }
            }
        }
        // At the sheet's corners.
        ReferenceMover mover = cutting(5, 1, 1, 2, 2);
        mover.place(0, 4, ROWS, COLUMNS);
        mover.range(0, 4, ROWS - 1, COLUMNS - 1, ROWS, COLUMNS);
        mover.place(0, 4, ROWS - 2, COLUMNS);
        mover.place(0, 4, ROWS, COLUMNS - 2);
        Check.due("the last corner", mover.move(0, 0, 4, ROWS - 1, COLUMNS - 1), 2);
        Check.code("the last corner", mover, LOST, LOST, 4, 4, ROWS - 2, COLUMNS, 4, 4, ROWS, COLUMNS - 2);
    }

    /** "Of the others": what is in the rectangle moves, though it lies where the cells are put down. */
    private static void whatIsCutIsNotLost() {
        for (int down = -3; down <= 3; down++) {
            for (int along = -3; along <= 3; along++) {
                overlap(down, along);
            }
        }
        // The same place on another sheet is no such place.
        ReferenceMover mover = cutting(1, 5, 5, 6, 6);
        mover.place(0, 1, 5, 5);
        mover.place(0, 2, 5, 5);
        Check.due("to another sheet", mover.move(0, 0, 2, 5, 5), 2);
        Check.code("to another sheet", mover, 4, 2, 5, 5, LOST);
    }

    private static void overlap(int down, int along) {
        String what = "the rectangle goes " + down + ", " + along;
        for (int row = 7; row <= 14; row++) {
            ReferenceMover mover = cutting(2, 10, 10, 11, 11);
            int[] want = new int[32];
            int length = 0;
            int changed = 0;
            for (int column = 7; column <= 14; column++) {
                mover.place(0, 2, row, column);
                boolean cut = inSquare(row, column);
                boolean covered = inSquare(row - down, column - along);
                int[] item = cut ? new int[] {4, 2, row + down, column + along}
                        : covered ? new int[] {LOST} : new int[] {4, 2, row, column};
                boolean still = down == 0 && along == 0;
                changed += cut && !still || !cut && covered ? 1 : 0;
                System.arraycopy(item, 0, want, length, item.length);
                length += item.length;
            }
            Check.due(what + ", row " + row, mover.move(0, 0, 2, 10 + down, 10 + along), changed);
            Check.code(what + ", row " + row, mover, Arrays.copyOf(want, length));
        }
    }

    private static boolean inSquare(int row, int column) {
        return row >= 10 && row <= 11 && column >= 10 && column <= 11;
    }

    /** One without a sheet gets the sheet on which it is, unless that is the new home. */
    private static void sheetsOfItems() {
        int[] sheets = {0, 1, 6, 7};
        for (int home : sheets) {
            for (int newHome : sheets) {
                for (int cut : sheets) {
                    for (int to : sheets) {
                        everyItem(home, newHome, cut, to);
                    }
                }
            }
        }
    }

    private static void everyItem(int home, int newHome, int cut, int to) {
        String what = "home " + home + ", new home " + newHome + ", from " + cut + " to " + to;
        ReferenceMover mover = cutting(cut, 5, 5, 6, 6);
        int[] want = new int[200];
        int length = 0;
        int changed = 0;
        for (int item : new int[] {NONE, 0, 1, 6, 7}) {
            int on = item == NONE ? home : item;
            int then = on == cut ? to : on;
            int named = item == NONE && then == newHome ? NONE : then;
            int row = on == cut ? 15 : 5;
            mover.place(3, item, 5, 6);
            mover.range(15, item, 5, 6, 6, 6);
            changed += row != 5 || named != item ? 2 : 0;
            length = add(want, length, 52, named, row, 6);
            length = add(want, length, 245, named, row, 6, row + 1, 6);

            // One that is neither cut nor covered.
            named = item == NONE && on == newHome ? NONE : on;
            mover.range(0, item, 5, 5, 7, 6);
            changed += named != item ? 1 : 0;
            length = add(want, length, 5, named, 5, 5, 7, 6);

            // One that is covered, if it lies on the sheet to which the cells go.
            mover.place(0, item, 16, 5);
            if (on == to) {
                changed++;
                length = add(want, length, LOST);
            } else {
                changed += named != item ? 1 : 0;
                length = add(want, length, 4, named, 16, 5);
            }
        }
        Check.due(what, mover.move(home, newHome, to, 15, 5), changed);
        Check.code(what, mover, Arrays.copyOf(want, length));
    }

    private static int add(int[] code, int length, int... item) {
        System.arraycopy(item, 0, code, length, item.length);
        return length + item.length;
    }

    /** How many changed (their numbers aren't the same) or were lost. */
    private static void whatIsNotChangedIsNotCounted() {
        ReferenceMover mover = cutting(2, 5, 5, 6, 6);
        mover.other(LOST);
        mover.place(0, NONE, 5, 5);
        mover.range(0, NONE, 5, 5, 6, 6);
        Check.due("moved, but written as before", mover.move(2, 3, 3, 5, 5), 0);
        Check.code("moved, but written as before", mover, LOST, 4, NONE, 5, 5, 5, NONE, 5, 5, 6, 6);
        Check.due("put down where they were", mover.move(2, 2, 2, 5, 5), 0);
        Check.due("not moved, but named", mover.move(2, 3, 2, 5, 5), 2);
        Check.code("not moved, but named", mover, LOST, 4, 2, 5, 5, 5, 2, 5, 5, 6, 6);
        Check.due("named, with another home", mover.move(3, 4, 2, 5, 5), 0);
        Check.due("from sheet to sheet", mover.move(4, 4, 5, 5, 5), 2);
        Check.code("from sheet to sheet", mover, LOST, 4, 5, 5, 5, 5, 5, 5, 5, 6, 6);
    }

    private static void wholeSheetMoves() {
        ReferenceMover mover = cutting(2, 1, 1, ROWS, COLUMNS);
        mover.range(0, 2, 1, 1, ROWS, COLUMNS);
        mover.range(0, 3, 1, 1, ROWS, COLUMNS);
        mover.place(0, 2, ROWS, COLUMNS);
        mover.place(0, 3, ROWS, COLUMNS);
        mover.place(0, 4, ROWS, COLUMNS);
        Check.due("the whole sheet", mover.move(0, 0, 3, 1, 1), 4);
        Check.code("the whole sheet", mover, 5, 3, 1, 1, ROWS, COLUMNS, LOST,
                4, 3, ROWS, COLUMNS, LOST, 4, 4, ROWS, COLUMNS);
        ReferenceMover all = cutting(2, 1, 1, ROWS, COLUMNS);
        all.place(0, 2, 1, 1);
        Check.refused("one row lower", all, () -> all.move(0, 0, 3, 2, 1));
        Check.refused("one column further", all, () -> all.move(0, 0, 3, 1, 2));
    }

    /** Whole COLUMNS and ROWS are wholly in a rectangle that has all of their cells alone. */
    private static void wholeLinesMove() {
        ReferenceMover mover = cutting(2, 1, 5, ROWS - 1, 9);
        mover.range(16, 2, 1, 5, ROWS, 9);
        Check.due("all rows but the last", mover.move(0, 0, 2, 1, 15), 0);
        Check.yes("rectangle", mover.rectangle(2, 2, 5, ROWS, 9));
        Check.due("all rows but the first", mover.move(0, 0, 2, 1, 15), 0);
        Check.yes("rectangle", mover.rectangle(2, 1, 5, ROWS, 9));
        Check.due("all rows", mover.move(0, 0, 2, 1, 15), 1);
        Check.code("all rows", mover, 261, 2, 1, 15, ROWS, 19);
        mover = cutting(2, 5, 1, 9, COLUMNS - 1);
        mover.range(32, 2, 5, 1, 9, COLUMNS);
        Check.due("all columns but the last", mover.move(0, 0, 2, 15, 1), 0);
        Check.yes("rectangle", mover.rectangle(2, 5, 2, 9, COLUMNS));
        Check.due("all columns but the first", mover.move(0, 0, 2, 15, 1), 0);
        Check.yes("rectangle", mover.rectangle(2, 5, 1, 9, COLUMNS));
        Check.due("all columns", mover.move(0, 0, 2, 15, 1), 1);
        Check.code("all columns", mover, 517, 2, 15, 1, 19, COLUMNS);
    }

    private static void noCode() {
        for (int home = 0; home <= 7; home++) {
            ReferenceMover mover = new ReferenceMover();
            Check.due("no code", mover.move(home, 7 - home, home, ROWS, COLUMNS), 0);
            Check.code("no code", mover);
            Before.EMPTY.checkRectangle("no code", mover);
        }
    }

    private static ReferenceMover movedFull(int[] cut, int[] to, int changed) {
        ReferenceMover mover = Before.FULL.make();
        Check.due("rectangle", rectangle(mover, cut), 1);
        Check.due("move of the full code", mover.move(to[0], to[1], to[2], to[3], to[4]), changed);
        return mover;
    }

    private static void fullCode() {
        int[] moved = Before.FULL.code();
        moved[1] = 5;
        moved[2] += 8;
        moved[3] += 9;
        for (int k = 4; k < 1000; k += 6) {
            moved[k + 1] = 5;
            moved[k + 2] += 8;
            moved[k + 3] += 9;
            moved[k + 4] += 8;
            moved[k + 5] += 9;
        }
        int[] all = {4, 2, 2, 4, 170};
        Check.longCode("all moved", () -> movedFull(all, new int[] {4, 4, 5, 10, 11}, 167), moved);

        int[] named = Before.FULL.code();
        named[1] = 3;
        for (int k = 4; k < 1000; k += 6) {
            named[k + 1] = 3;
        }
        Check.longCode("all named", () -> movedFull(all, new int[] {3, 4, 5, 10, 11}, 167), named);

        int[] lost = new int[167];
        Arrays.fill(lost, LOST);
        Check.longCode("all lost", () -> movedFull(all, new int[] {3, 4, 3, 2, 2}, 167), lost);

        int[] forward = new int[997];
        System.arraycopy(Before.FULL.code(), 3, forward, 0, 997);
        forward[0] = LOST;
        Check.longCode("the first item lost",
                () -> movedFull(new int[] {4, 2, 2, 2, 2}, new int[] {3, 3, 3, 2, 2}, 1), forward);
        Check.rectangle("full code", movedFull(all, new int[] {3, 4, 3, 2, 2}, 167), 4, 2, 2, 4, 170);
    }
}
