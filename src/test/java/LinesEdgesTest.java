import java.util.Arrays;

/** The edges of the promises 9 and 10, sentence by sentence. */
public final class LinesEdgesTest {
    private static final int NONE = Check.NONE;
    private static final int LOST = Check.LOST;
    private static final int ROWS = Check.ROWS;
    private static final int COLUMNS = Check.COLUMNS;
    private static final int LEAST = Integer.MIN_VALUE;
    private static final int MOST = Integer.MAX_VALUE;
    private static final int MOST_LINES = 16384;
    private static final boolean[] BOTH = {false, true};

    public static void main(String[] args) {
        homeHasLimits();
        sheetHasLimits();
        lineHasLimits();
        countHasLimits();
        severalThingsWrong();
        onlyItemsOnTheSheet();
        onlyLinesOfTheDirection();
        placeAtOrBehindMoves();
        placeBeyondTheLastIsLost();
        firstLineOfARangeMoves();
        lastLineOfARangeMoves();
        lastLineGoesToTheLastAtMost();
        firstLineBeyondIsLost();
        placeTakenOutIsLost();
        placeBehindMovesUp();
        fewerAreTakenOut();
        rangeKeepsWhatItHasBesides();
        rangeWithNoneIsLost();
        allLinesStay();
        marksStay();
        noCode();
        fullCode();
        Check.end();
    }

    private static int last(boolean columns) {
        return columns ? COLUMNS : ROWS;
    }

    private static int change(ReferenceMover mover, boolean out, int home, int sheet, boolean columns,
            int at, int n) {
        return out ? mover.delete(home, sheet, columns, at, n) : mover.insert(home, sheet, columns, at, n);
    }

    private static void refused(int home, int sheet, boolean columns, int at, int n) {
        String what = "(" + home + ", " + sheet + ", " + columns + ", " + at + ", " + n + ")";
        Check.throwsIllegal("insert" + what, m -> m.insert(home, sheet, columns, at, n));
        Check.throwsIllegal("delete" + what, m -> m.delete(home, sheet, columns, at, n));
    }

    /** A place and a range of one cell, which must fare alike, on a line of the direction. */
    private static void cell(boolean out, boolean columns, int line, int at, int n, int want) {
        String what = (out ? "delete " : "insert ") + (columns ? "columns " : "rows ") + at + ", " + n
                + ": line " + line;
        ReferenceMover mover = new ReferenceMover();
        int row = columns ? 9 : line;
        int column = columns ? line : 9;
        Check.yes("place", mover.place(0, NONE, row, column));
        Check.yes("range", mover.range(0, 5, row, column, row, column));
        Check.due(what, change(mover, out, 5, 5, columns, at, n), want == line ? 0 : 2);
        if (want == LOST) {
            Check.code(what, mover, LOST, LOST);
            return;
        }
        row = columns ? 9 : want;
        column = columns ? want : 9;
        Check.code(what, mover, 4, NONE, row, column, 5, 5, row, column, row, column);
    }

    /** A range's first and last line of the direction, and those that are due; none: LOST. */
    private static void lines(boolean out, boolean columns, int[] lines, int at, int n, int... want) {
        String what = (out ? "delete " : "insert ") + (columns ? "columns " : "rows ") + at + ", " + n
                + ": lines " + Arrays.toString(lines);
        ReferenceMover mover = columns ? Check.withRange(6, 1, 8, lines[0], 9, lines[1])
                : Check.withRange(6, 1, lines[0], 8, lines[1], 9);
        int changed = Arrays.equals(lines, want) ? 0 : 1;
        Check.due(what, change(mover, out, 0, 1, columns, at, n), changed);
        if (want.length == 0) {
            Check.code(what, mover, LOST);
        } else if (columns) {
            Check.code(what, mover, 101, 1, 8, want[0], 9, want[1]);
        } else {
            Check.code(what, mover, 101, 1, want[0], 8, want[1], 9);
        }
    }

    /** IllegalArgumentException: there is no such home. */
    private static void homeHasLimits() {
        for (boolean columns : BOTH) {
            for (int home : new int[] {-1, -2, 8, 9, LEAST, MOST}) {
                refused(home, 0, columns, 1, 1);
            }
        }
        for (boolean out : BOTH) {
            for (int home = 0; home <= 7; home++) {
                ReferenceMover mover = Check.withPlace(0, NONE, 5, 5);
                Check.due("home " + home, change(mover, out, home, home, false, 2, 1), 1);
                Check.code("home " + home, mover, 4, NONE, out ? 4 : 6, 5);
            }
        }
    }

    /** IllegalArgumentException: there is no such sheet. */
    private static void sheetHasLimits() {
        for (boolean columns : BOTH) {
            for (int sheet : new int[] {-1, -2, 8, 9, LEAST, MOST}) {
                refused(0, sheet, columns, 1, 1);
            }
        }
        for (boolean out : BOTH) {
            for (int sheet = 0; sheet <= 7; sheet++) {
                ReferenceMover mover = Check.withPlace(0, sheet, 5, 5);
                Check.due("sheet " + sheet, change(mover, out, 3, sheet, true, 2, 1), 1);
                Check.code("sheet " + sheet, mover, 4, sheet, 5, out ? 4 : 6);
            }
        }
    }

    /** IllegalArgumentException: there is no such line. */
    private static void lineHasLimits() {
        for (boolean columns : BOTH) {
            for (int at : new int[] {0, -1, last(columns) + 1, last(columns) + 2, LEAST, MOST}) {
                refused(0, 0, columns, at, 1);
            }
        }
        refused(0, 0, true, ROWS, 1);
        for (boolean columns : BOTH) {
            int last = last(columns);
            cell(false, columns, 1, 1, 1, 2);
            cell(false, columns, last, last, 1, LOST);
            cell(true, columns, 1, 1, 1, LOST);
            cell(true, columns, last, last, 1, LOST);
        }
        // There are more rows than columns.
        cell(false, false, COLUMNS + 1, COLUMNS + 1, 1, COLUMNS + 2);
        cell(true, false, COLUMNS + 2, COLUMNS + 1, 1, COLUMNS + 1);
    }

    /** IllegalArgumentException: n isn't 1 .. 16384. */
    private static void countHasLimits() {
        for (boolean columns : BOTH) {
            for (int n : new int[] {0, -1, MOST_LINES + 1, ROWS, LEAST, MOST}) {
                refused(0, 0, columns, 1, n);
                refused(0, 0, columns, last(columns), n);
            }
        }
        cell(false, false, 3, 2, MOST_LINES, 3 + MOST_LINES);
        cell(true, false, 3 + MOST_LINES, 2, MOST_LINES, 3);
        cell(false, true, 1, 1, MOST_LINES - 1, COLUMNS);
        cell(false, true, 1, 1, MOST_LINES, LOST);
        cell(true, true, COLUMNS, 1, MOST_LINES - 1, 1);
        cell(true, true, COLUMNS, 1, MOST_LINES, LOST);
        cell(false, true, 1, 2, MOST_LINES, 1);
        cell(true, true, 1, 2, MOST_LINES, 1);
    }

    private static void severalThingsWrong() {
        refused(-1, -1, false, 0, 0);
        refused(8, 8, true, COLUMNS + 1, MOST_LINES + 1);
        refused(LEAST, MOST, true, LEAST, MOST);
    }

    /** A place on that sheet: with its number, or without one if the home is that sheet. */
    private static void onlyItemsOnTheSheet() {
        for (boolean out : BOTH) {
            for (int home = 0; home <= 7; home++) {
                for (int sheet = 0; sheet <= 7; sheet++) {
                    oneSheet(out, home, sheet);
                }
            }
        }
    }

    private static void oneSheet(boolean out, int home, int sheet) {
        String what = (out ? "delete" : "insert") + " home " + home + " sheet " + sheet;
        ReferenceMover mover = new ReferenceMover();
        int[] want = new int[90];
        int changed = 0;
        for (int item = NONE; item <= 7; item++) {
            Check.yes("place", mover.place(0, item, 50, 6));
            Check.yes("range", mover.range(0, item, 50, 6, 60, 7));
            boolean on = item == sheet || item == NONE && home == sheet;
            int by = !on ? 0 : out ? -3 : 3;
            changed += on ? 2 : 0;
            int[] items = {4, item, 50 + by, 6, 5, item, 50 + by, 6, 60 + by, 7};
            System.arraycopy(items, 0, want, 10 * (item + 1), 10);
        }
        Check.due(what, change(mover, out, home, sheet, false, 20, 3), changed);
        Check.code(what, mover, want);
    }

    /** n lines, rows or columns (columns true). */
    private static void onlyLinesOfTheDirection() {
        for (boolean out : BOTH) {
            int by = out ? -1 : 1;
            ReferenceMover mover = Check.withRange(0, 2, 10, 20, 30, 40);
            mover.place(0, 2, 10, 20);
            Check.due("rows", change(mover, out, 0, 2, false, 5, 1), 2);
            Check.code("rows", mover, 5, 2, 10 + by, 20, 30 + by, 40, 4, 2, 10 + by, 20);
            mover = Check.withRange(0, 2, 10, 20, 30, 40);
            mover.place(0, 2, 10, 20);
            Check.due("columns", change(mover, out, 0, 2, true, 5, 1), 2);
            Check.code("columns", mover, 5, 2, 10, 20 + by, 30, 40 + by, 4, 2, 10, 20 + by);
        }
        ReferenceMover mover = Check.withPlace(0, 2, 10, 20);
        Check.due("its column is behind, its row isn't", mover.insert(0, 2, false, 11, 1), 0);
        Check.due("its column is behind, its row isn't", mover.delete(0, 2, false, 20, 1), 0);
        Check.due("its row is not at it", mover.delete(0, 2, true, 21, 1), 0);
        Check.code("its row is not at it", mover, 4, 2, 10, 20);
    }

    /** A place on that sheet moves by n if its line is at or behind. */
    private static void placeAtOrBehindMoves() {
        for (boolean columns : BOTH) {
            int last = last(columns);
            for (int n : new int[] {1, 2, 3, 1000}) {
                cell(false, columns, 7, 8, n, 7);
                cell(false, columns, 8, 8, n, 8 + n);
                cell(false, columns, 9, 8, n, 9 + n);
                cell(false, columns, 1, 1, n, 1 + n);
                cell(false, columns, 1, 2, n, 1);
                cell(false, columns, last - 1, last, n, last - 1);
                cell(false, columns, last - n, last - n, n, last);
            }
        }
    }

    /** It is LOST if that is beyond the last one. */
    private static void placeBeyondTheLastIsLost() {
        for (boolean columns : BOTH) {
            int last = last(columns);
            for (int n : new int[] {1, 2, 3, 1000, MOST_LINES - 1}) {
                cell(false, columns, last - n, 1, n, last);
                cell(false, columns, last - n + 1, 1, n, LOST);
                cell(false, columns, last, 1, n, LOST);
                cell(false, columns, last, last, n, LOST);
            }
        }
        cell(false, false, ROWS - MOST_LINES, 1, MOST_LINES, ROWS);
        cell(false, false, ROWS - MOST_LINES + 1, 1, MOST_LINES, LOST);
        // A column may go where there are rows alone.
        cell(false, true, COLUMNS, COLUMNS, 1, LOST);
        cell(false, false, COLUMNS, COLUMNS, 1, COLUMNS + 1);
    }

    /** So do a range's lines: its first one. */
    private static void firstLineOfARangeMoves() {
        for (boolean columns : BOTH) {
            lines(false, columns, new int[] {20, 30}, 21, 5, 20, 35);
            lines(false, columns, new int[] {20, 30}, 20, 5, 25, 35);
            lines(false, columns, new int[] {20, 30}, 19, 5, 25, 35);
            lines(false, columns, new int[] {1, 30}, 1, 5, 6, 35);
            lines(false, columns, new int[] {1, 30}, 2, 5, 1, 35);
        }
    }

    /** So do a range's lines: its last one. */
    private static void lastLineOfARangeMoves() {
        for (boolean columns : BOTH) {
            lines(false, columns, new int[] {20, 30}, 29, 5, 20, 35);
            lines(false, columns, new int[] {20, 30}, 30, 5, 20, 35);
            lines(false, columns, new int[] {20, 30}, 31, 5, 20, 30);
            lines(false, columns, new int[] {20, 20}, 20, 1, 21, 21);
            lines(false, columns, new int[] {20, 20}, 21, 1, 20, 20);
        }
    }

    /** But the last one goes to the sheet's last at most. */
    private static void lastLineGoesToTheLastAtMost() {
        for (boolean columns : BOTH) {
            int last = last(columns);
            for (int n : new int[] {1, 2, 1000}) {
                lines(false, columns, new int[] {20, last - n - 1}, 21, n, 20, last - 1);
                lines(false, columns, new int[] {20, last - n}, 21, n, 20, last);
                lines(false, columns, new int[] {20, last - n + 1}, 21, n, 20, last);
                lines(false, columns, new int[] {20, last}, 21, n, 20, last);
                lines(false, columns, new int[] {20, last}, 20, n, 20 + n, last);
                lines(false, columns, new int[] {20, last}, last, n, 20, last);
            }
            lines(false, columns, new int[] {20, last - 1}, last - 1, MOST_LINES, 20, last);
            lines(false, columns, new int[] {20, last - 1}, last, MOST_LINES, 20, last - 1);
        }
        lines(false, true, new int[] {1, 2}, 2, MOST_LINES, 1, COLUMNS);
        lines(false, false, new int[] {1, 2}, 2, MOST_LINES, 1, 2 + MOST_LINES);
    }

    /** LOST is one whose first line would be beyond. */
    private static void firstLineBeyondIsLost() {
        for (boolean columns : BOTH) {
            int last = last(columns);
            for (int n : new int[] {1, 2, 1000}) {
                lines(false, columns, new int[] {last - n - 1, last}, 1, n, last - 1, last);
                lines(false, columns, new int[] {last - n, last}, 1, n, last, last);
                lines(false, columns, new int[] {last - n, last - n}, 1, n, last, last);
                lines(false, columns, new int[] {last - n + 1, last}, 1, n);
                lines(false, columns, new int[] {last - n + 1, last - n + 1}, last - n + 1, n);
                lines(false, columns, new int[] {last, last}, last, n);
                lines(false, columns, new int[] {last - 1, last}, last, n, last - 1, last);
            }
        }
        lines(false, true, new int[] {1, 2}, 1, MOST_LINES);
        lines(false, true, new int[] {1, 2}, 1, MOST_LINES - 1, COLUMNS, COLUMNS);
    }

    /** A place on one of them is LOST. */
    private static void placeTakenOutIsLost() {
        for (boolean columns : BOTH) {
            int last = last(columns);
            for (int n : new int[] {1, 2, 3, 1000}) {
                cell(true, columns, 49, 50, n, 49);
                cell(true, columns, 50, 50, n, LOST);
                cell(true, columns, 50 + n - 1, 50, n, LOST);
                cell(true, columns, 1, 1, n, LOST);
                cell(true, columns, n, 1, n, LOST);
                cell(true, columns, last, last - n + 1, n, LOST);
                cell(true, columns, last - n + 1, last - n + 1, n, LOST);
                cell(true, columns, last - n, last - n + 1, n, last - n);
            }
        }
    }

    /** One behind moves up. */
    private static void placeBehindMovesUp() {
        for (boolean columns : BOTH) {
            int last = last(columns);
            for (int n : new int[] {1, 2, 3, 1000}) {
                cell(true, columns, 50 + n, 50, n, 50);
                cell(true, columns, 51 + n, 50, n, 51);
                cell(true, columns, n + 1, 1, n, 1);
                cell(true, columns, last, last - n, n, last - n);
                cell(true, columns, last, 1, n, last - n);
            }
        }
    }

    /** (fewer, if there aren't so many). */
    private static void fewerAreTakenOut() {
        for (boolean columns : BOTH) {
            int last = last(columns);
            for (int n : new int[] {3, 4, 1000, MOST_LINES}) {
                cell(true, columns, last - 3, last - 2, n, last - 3);
                cell(true, columns, last - 2, last - 2, n, LOST);
                cell(true, columns, last, last - 2, n, LOST);
                lines(true, columns, new int[] {last - 3, last}, last - 2, n, last - 3, last - 3);
                lines(true, columns, new int[] {last - 3, last - 2}, last - 2, n, last - 3, last - 3);
                lines(true, columns, new int[] {last - 2, last}, last - 2, n);
                lines(true, columns, new int[] {2, last}, last - 2, n, 2, last - 3);
                lines(true, columns, new int[] {2, last - 3}, last - 2, n, 2, last - 3);
            }
            cell(true, columns, last, last - 2, 2, last - 2);
            lines(true, columns, new int[] {last - 3, last}, last - 2, 2, last - 3, last - 2);
            lines(true, columns, new int[] {last - 2, last}, last - 2, 2, last - 2, last - 2);
            lines(true, columns, new int[] {2, last}, last, MOST_LINES, 2, last - 1);
        }
    }

    /** A range keeps what it has besides. */
    private static void rangeKeepsWhatItHasBesides() {
        for (boolean columns : BOTH) {
            int[] range = {20, 30};
            lines(true, columns, range, 31, 5, 20, 30);
            lines(true, columns, range, 30, 1, 20, 29);
            lines(true, columns, range, 30, 5, 20, 29);
            lines(true, columns, range, 21, 10, 20, 20);
            lines(true, columns, range, 21, 11, 20, 20);
            lines(true, columns, range, 21, 9, 20, 21);
            lines(true, columns, range, 20, 1, 20, 29);
            lines(true, columns, range, 20, 10, 20, 20);
            lines(true, columns, range, 19, 1, 19, 29);
            lines(true, columns, range, 19, 2, 19, 28);
            lines(true, columns, range, 19, 11, 19, 19);
            lines(true, columns, range, 15, 5, 15, 25);
            lines(true, columns, range, 15, 6, 15, 24);
            lines(true, columns, range, 1, 19, 1, 11);
            lines(true, columns, range, 1, 29, 1, 1);
            lines(true, columns, new int[] {1, 2}, 1, 1, 1, 1);
            lines(true, columns, new int[] {1, 2}, 2, 1, 1, 1);
            lines(true, columns, new int[] {1, 2}, 3, 1, 1, 2);
        }
    }

    /** LOST if it has none. */
    private static void rangeWithNoneIsLost() {
        for (boolean columns : BOTH) {
            int last = last(columns);
            int[] range = {20, 30};
            lines(true, columns, range, 20, 11);
            lines(true, columns, range, 20, 12);
            lines(true, columns, range, 19, 12);
            lines(true, columns, range, 19, 13);
            lines(true, columns, range, 1, 30);
            lines(true, columns, range, 1, MOST_LINES);
            lines(true, columns, new int[] {1, 1}, 1, 1);
            lines(true, columns, new int[] {last, last}, last, 1);
            lines(true, columns, new int[] {last, last}, last - 1, 2);
            lines(true, columns, new int[] {last, last}, last - 1, 1, last - 1, last - 1);
        }
        lines(true, true, new int[] {2, COLUMNS}, 1, MOST_LINES);
        lines(true, true, new int[] {1, COLUMNS - 1}, 1, MOST_LINES);
        lines(true, true, new int[] {1, COLUMNS - 1}, 1, MOST_LINES - 1);
        lines(true, true, new int[] {2, COLUMNS}, 1, MOST_LINES - 1, 1, 1);
    }

    /** A range that has all lines stays: if its first one is 1 and its last one the sheet's last. */
    private static void allLinesStay() {
        for (boolean columns : BOTH) {
            int last = last(columns);
            for (boolean out : BOTH) {
                for (int n : new int[] {1, 2, MOST_LINES}) {
                    for (int at : new int[] {1, 2, 5, last - 1, last}) {
                        lines(out, columns, new int[] {1, last}, at, n, 1, last);
                        wholeLinesStay(out, columns, at, n);
                    }
                }
            }
            lines(false, columns, new int[] {2, last}, 1, 1, 3, last);
            lines(false, columns, new int[] {1, last - 1}, 1, 1, 2, last);
            lines(false, columns, new int[] {1, last - 1}, 2, 1, 1, last);
            lines(true, columns, new int[] {2, last}, 1, 1, 1, last - 1);
            lines(true, columns, new int[] {1, last - 1}, last, 1, 1, last - 1);
            lines(true, columns, new int[] {1, last - 1}, 1, 1, 1, last - 2);
        }
        // So many lines are all columns, but not all rows.
        lines(false, false, new int[] {1, COLUMNS}, 1, 1, 2, COLUMNS + 1);
        lines(true, false, new int[] {1, COLUMNS}, 1, 1, 1, COLUMNS - 1);
        becomesAll();
    }

    /** Whole COLUMNS and ROWS, whatever $ they have, in the direction of which they have all. */
    private static void wholeLinesStay(boolean out, boolean columns, int at, int n) {
        ReferenceMover mover = new ReferenceMover();
        int[] want = new int[96];
        for (int marks = 0; marks < 16; marks++) {
            int whole = (columns ? 32 : 16) + marks;
            int[] item = columns ? new int[] {5 + 16 * whole, 4, 5, 1, 6, COLUMNS}
                    : new int[] {5 + 16 * whole, 4, 1, 5, ROWS, 6};
            Check.yes("range", mover.range(whole, 4, item[2], item[3], item[4], item[5]));
            System.arraycopy(item, 0, want, 6 * marks, 6);
        }
        String what = (out ? "delete " : "insert ") + at + ", " + n + " of whole lines";
        Check.due(what, change(mover, out, 4, 4, columns, at, n), 0);
        Check.code(what, mover, want);
    }

    /** A range that gets all lines by a change has all lines from then on. */
    private static void becomesAll() {
        ReferenceMover mover = Check.withRange(0, NONE, 1, 2, ROWS - 1, 3);
        Check.due("now it has all rows", mover.insert(0, 0, false, 5, 1), 1);
        Check.due("it has all rows", mover.delete(0, 0, false, 5, 1), 0);
        Check.code("it has all rows", mover, 5, NONE, 1, 2, ROWS, 3);
        mover = Check.withRange(16, NONE, 1, 2, ROWS, 5);
        Check.due("the columns of COLUMNS", mover.insert(0, 0, true, 2, 1), 1);
        Check.due("the columns of COLUMNS", mover.delete(0, 0, true, 4, 1), 1);
        Check.code("the columns of COLUMNS", mover, 261, NONE, 1, 3, ROWS, 5);
        Check.due("its columns taken out", mover.delete(0, 0, true, 3, 3), 1);
        Check.code("its columns taken out", mover, LOST);
        mover = Check.withRange(32, NONE, ROWS - 1, 1, ROWS, COLUMNS);
        Check.due("the rows of ROWS", mover.insert(0, 0, false, 1, 1), 1);
        Check.code("the rows of ROWS", mover, 517, NONE, ROWS, 1, ROWS, COLUMNS);
        Check.due("its rows pushed out", mover.insert(0, 0, false, 1, 1), 1);
        Check.code("its rows pushed out", mover, LOST);
    }

    /** No word of $ in these promises: fixed lines move like the others, and keep their $. */
    private static void marksStay() {
        for (boolean out : BOTH) {
            int by = out ? -2 : 2;
            for (int marks = 0; marks < 16; marks++) {
                ReferenceMover mover = Check.withRange(marks, NONE, 15, 16, 17, 18);
                mover.place(marks & 3, NONE, 15, 16);
                String what = (out ? "delete" : "insert") + " with marks " + marks;
                Check.due(what, change(mover, out, 7, 7, false, 3, 2), 2);
                Check.due(what, change(mover, out, 7, 7, true, 3, 2), 2);
                Check.code(what, mover, 5 + 16 * marks, NONE, 15 + by, 16 + by, 17 + by, 18 + by,
                        4 + 16 * (marks & 3), NONE, 15 + by, 16 + by);
            }
        }
    }

    private static void noCode() {
        for (boolean columns : BOTH) {
            ReferenceMover mover = new ReferenceMover();
            Check.due("insert, no code", mover.insert(0, 0, columns, 1, MOST_LINES), 0);
            Check.due("delete, no code", mover.delete(7, 7, columns, last(columns), MOST_LINES), 0);
            Check.code("no code", mover);
            Before.EMPTY.checkRectangle("no code", mover);
        }
    }

    private static ReferenceMover changedFull(boolean out, boolean columns, int at, int n, int changed) {
        ReferenceMover mover = Before.FULL.make();
        Check.due("a change of the full code", change(mover, out, 3, 3, columns, at, n), changed);
        return mover;
    }

    private static void fullCode() {
        int[] down = Before.FULL.code();
        down[2] += 10;
        for (int k = 4; k < 1000; k += 6) {
            down[k + 2] += 10;
            down[k + 4] += 10;
        }
        Check.longCode("rows put in", () -> changedFull(false, false, 1, 10, 167), down);

        int[] wider = Before.FULL.code();
        for (int k = 4; k < 1000; k += 6) {
            wider[k + 5] += 10;
        }
        Check.longCode("columns put in", () -> changedFull(false, true, 5, 10, 166), wider);

        int[] lost = new int[167];
        Arrays.fill(lost, LOST);
        Check.longCode("rows taken out", () -> changedFull(true, false, 1, 4, 167), lost);
        Check.longCode("columns put in", () -> changedFull(false, true, 1, COLUMNS, 167), lost);

        int[] forward = new int[997];
        forward[0] = LOST;
        for (int k = 1; k < 997; k++) {
            forward[k] = Before.FULL.code()[k + 3] - ((k - 1) % 6 == 3 || (k - 1) % 6 == 5 ? 1 : 0);
        }
        Check.longCode("a column taken out", () -> changedFull(true, true, 2, 1, 167), forward);
        Before.FULL.checkRectangle("full code", changedFull(true, true, 2, 1, 167));
        Before.FULL.checkRectangle("full code", changedFull(false, true, 2, 1, 167));
    }
}
