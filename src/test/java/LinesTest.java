/** Promises 9 and 10: insert and delete. */
public final class LinesTest {
    private static final int NONE = Check.NONE;
    private static final int LOST = Check.LOST;
    private static final int ROWS = Check.ROWS;
    private static final int COLUMNS = Check.COLUMNS;

    public static void main(String[] args) {
        sheets();
        placesWithLinesPutIn();
        rangesWithLinesPutIn();
        placesWithLinesTakenOut();
        rangesWithLinesTakenOut();
        allLinesStay();
        marksStay();
        severalItems();
        everyLine();
        refused();
        Check.end();
    }

    private static int change(ReferenceMover mover, boolean takenOut, boolean columns, int at, int n) {
        return takenOut ? mover.delete(0, 0, columns, at, n) : mover.insert(0, 0, columns, at, n);
    }

    /** A place's line in one direction, the other one being 2. */
    private static void place(boolean takenOut, boolean columns, int line, int at, int n, int want) {
        String what = (takenOut ? "delete" : "insert") + " place " + line + ": " + at + ", " + n;
        ReferenceMover mover = columns ? Check.withPlace(0, NONE, 2, line) : Check.withPlace(0, NONE, line, 2);
        Check.due(what, change(mover, takenOut, columns, at, n), want == line ? 0 : 1);
        if (want == LOST) {
            Check.code(what, mover, LOST);
        } else if (columns) {
            Check.code(what, mover, 4, NONE, 2, want);
        } else {
            Check.code(what, mover, 4, NONE, want, 2);
        }
    }

    /** A range's lines in one direction, the other ones being 2 and 3. */
    private static void range(boolean takenOut, boolean columns, int[] lines, int at, int n, int... want) {
        String what = (takenOut ? "delete" : "insert") + " range " + lines[0] + " .. " + lines[1]
                + ": " + at + ", " + n;
        ReferenceMover mover = columns ? Check.withRange(0, NONE, 2, lines[0], 3, lines[1])
                : Check.withRange(0, NONE, lines[0], 2, lines[1], 3);
        int changed = java.util.Arrays.equals(lines, want) ? 0 : 1;
        Check.due(what, change(mover, takenOut, columns, at, n), changed);
        if (want.length == 0) {
            Check.code(what, mover, LOST);
        } else if (columns) {
            Check.code(what, mover, 5, NONE, 2, want[0], 3, want[1]);
        } else {
            Check.code(what, mover, 5, NONE, want[0], 2, want[1], 3);
        }
    }

    private static void sheets() {
        for (int home = 0; home < 8; home++) {
            for (int sheet = 0; sheet < 8; sheet++) {
                ReferenceMover mover = new ReferenceMover();
                mover.place(0, NONE, 5, 5);
                mover.range(0, 3, 5, 5, 6, 6);
                int changed = (home == sheet ? 1 : 0) + (sheet == 3 ? 1 : 0);
                int row = home == sheet ? 7 : 5;
                int top = sheet == 3 ? 7 : 5;
                String what = "home " + home + " sheet " + sheet;
                Check.due(what, mover.insert(home, sheet, false, 5, 2), changed);
                Check.code(what, mover, 4, NONE, row, 5, 5, 3, top, 5, top + 1, 6);
                Check.due(what, mover.delete(home, sheet, true, 2, 2), changed);
                int left = home == sheet ? 3 : 5;
                int rangeLeft = sheet == 3 ? 3 : 5;
                Check.code(what, mover, 4, NONE, row, left, 5, 3, top, rangeLeft, top + 1, rangeLeft + 1);
            }
        }
    }

    private static void placesWithLinesPutIn() {
        for (boolean columns : new boolean[] {false, true}) {
            int last = columns ? COLUMNS : ROWS;
            place(false, columns, 5, 6, 3, 5);
            place(false, columns, 5, 5, 3, 8);
            place(false, columns, 5, 4, 3, 8);
            place(false, columns, 1, 1, 1, 2);
            place(false, columns, last - 3, 1, 3, last);
            place(false, columns, last - 2, 1, 3, LOST);
            place(false, columns, last, last, 1, LOST);
            place(false, columns, last - 1, last, 16384, last - 1);
        }
        place(false, false, 5, 5, 16384, 16389);
        place(false, true, 5, 5, 16384, LOST);
        place(false, true, 1, 1, 16383, COLUMNS);
    }

    private static void rangesWithLinesPutIn() {
        for (boolean columns : new boolean[] {false, true}) {
            int last = columns ? COLUMNS : ROWS;
            range(false, columns, new int[] {3, 6}, 7, 2, 3, 6);
            range(false, columns, new int[] {3, 6}, 6, 2, 3, 8);
            range(false, columns, new int[] {3, 6}, 4, 2, 3, 8);
            range(false, columns, new int[] {3, 6}, 3, 2, 5, 8);
            range(false, columns, new int[] {3, 6}, 1, 2, 5, 8);
            range(false, columns, new int[] {3, last - 2}, 4, 2, 3, last);
            range(false, columns, new int[] {3, last - 2}, 4, 3, 3, last);
            range(false, columns, new int[] {3, last}, 4, 9, 3, last);
            range(false, columns, new int[] {3, last}, 3, 9, 12, last);
            range(false, columns, new int[] {1, last - 1}, 1, 5, 6, last);
            range(false, columns, new int[] {last - 5, last - 2}, 1, 5, last, last);
            range(false, columns, new int[] {last - 5, last - 2}, 1, 6);
            range(false, columns, new int[] {last, last}, last, 1);
            range(false, columns, new int[] {2, last}, last, 1, 2, last);
        }
    }

    private static void placesWithLinesTakenOut() {
        for (boolean columns : new boolean[] {false, true}) {
            int last = columns ? COLUMNS : ROWS;
            place(true, columns, 5, 6, 3, 5);
            place(true, columns, 5, 5, 1, LOST);
            place(true, columns, 5, 3, 3, LOST);
            place(true, columns, 5, 3, 2, 3);
            place(true, columns, 5, 1, 4, 1);
            place(true, columns, last, last, 1, LOST);
            place(true, columns, last, last, 16384, LOST);
            place(true, columns, last - 1, last, 16384, last - 1);
            place(true, columns, last, last - 1, 1, last - 1);
        }
        place(true, false, ROWS, 1, 16384, ROWS - 16384);
        place(true, true, COLUMNS, 1, 16384, LOST);
        place(true, true, COLUMNS, 1, 16383, 1);
    }

    private static void rangesWithLinesTakenOut() {
        for (boolean columns : new boolean[] {false, true}) {
            int last = columns ? COLUMNS : ROWS;
            range(true, columns, new int[] {3, 6}, 7, 2, 3, 6);
            range(true, columns, new int[] {3, 6}, 1, 2, 1, 4);
            range(true, columns, new int[] {3, 6}, 1, 3, 1, 3);
            range(true, columns, new int[] {3, 6}, 2, 4, 2, 2);
            range(true, columns, new int[] {3, 6}, 4, 2, 3, 4);
            range(true, columns, new int[] {3, 6}, 4, 9, 3, 3);
            range(true, columns, new int[] {3, 6}, 6, 1, 3, 5);
            range(true, columns, new int[] {3, 6}, 3, 1, 3, 5);
            range(true, columns, new int[] {3, 6}, 3, 4);
            range(true, columns, new int[] {3, 6}, 1, 9);
            range(true, columns, new int[] {3, 3}, 3, 1);
            range(true, columns, new int[] {3, last}, 5, 2, 3, last - 2);
            range(true, columns, new int[] {last - 3, last}, last - 1, 16384, last - 3, last - 2);
            range(true, columns, new int[] {last - 3, last}, last - 3, 16384);
            range(true, columns, new int[] {1, last - 1}, 1, 1, 1, last - 2);
            range(true, columns, new int[] {2, last}, 1, 1, 1, last - 1);
        }
    }

    private static void allLinesStay() {
        for (boolean takenOut : new boolean[] {false, true}) {
            range(takenOut, false, new int[] {1, ROWS}, 1, 16384, 1, ROWS);
            range(takenOut, false, new int[] {1, ROWS}, 5, 2, 1, ROWS);
            range(takenOut, false, new int[] {1, ROWS}, ROWS, 1, 1, ROWS);
            range(takenOut, true, new int[] {1, COLUMNS}, 1, 16384, 1, COLUMNS);
            range(takenOut, true, new int[] {1, COLUMNS}, 5, 2, 1, COLUMNS);
        }
        // The direction counts: all rows do not hold the columns.
        ReferenceMover mover = Check.withRange(16, NONE, 1, 5, ROWS, 8);
        Check.due("columns put in", mover.insert(0, 0, true, 6, 2), 1);
        Check.code("columns put in", mover, 261, NONE, 1, 5, ROWS, 10);
        Check.due("rows put in", mover.insert(0, 0, false, 1, 2), 0);
        Check.due("rows taken out", mover.delete(0, 0, false, 1, 2), 0);
        Check.due("columns taken out", mover.delete(0, 0, true, 1, 5), 1);
        Check.code("columns taken out", mover, 261, NONE, 1, 1, ROWS, 5);
        Check.due("all its columns taken out", mover.delete(0, 0, true, 1, 5), 1);
        Check.code("all its columns taken out", mover, LOST);
        mover = Check.withRange(32, NONE, 5, 1, 8, COLUMNS);
        Check.due("rows put in", mover.insert(0, 0, false, 6, 2), 1);
        Check.due("columns put in", mover.insert(0, 0, true, 6, 2), 0);
        Check.due("columns taken out", mover.delete(0, 0, true, 1, 16384), 0);
        Check.code("rows", mover, 517, NONE, 5, 1, 10, COLUMNS);
        mover = Check.withRange(0, NONE, 1, 1, ROWS, COLUMNS);
        Check.due("all cells", mover.insert(0, 0, false, 1, 1) + mover.insert(0, 0, true, 1, 1)
                + mover.delete(0, 0, false, 1, 1) + mover.delete(0, 0, true, 1, 1), 0);
        Check.code("all cells", mover, 5, NONE, 1, 1, ROWS, COLUMNS);
        // As many lines as there are columns are not all lines of a sheet's rows.
        mover = Check.withRange(0, NONE, 1, 2, 16384, 3);
        Check.due("not all rows", mover.insert(0, 0, false, 1, 1), 1);
        Check.code("not all rows", mover, 5, NONE, 2, 2, 16385, 3);
    }

    private static void marksStay() {
        for (int marks = 0; marks < 16; marks++) {
            ReferenceMover mover = Check.withRange(marks, 4, 5, 6, 7, 8);
            mover.place(marks & 3, 4, 5, 6);
            Check.due("$ and insert", mover.insert(0, 4, false, 5, 1), 2);
            Check.due("$ and delete", mover.delete(0, 4, true, 1, 5), 2);
            Check.code("$ stay", mover, 5 + 16 * marks, 4, 6, 1, 8, 3, 4 + 16 * (marks & 3), 4, 6, 1);
        }
    }

    private static void severalItems() {
        ReferenceMover mover = new ReferenceMover();
        mover.other(-12);
        mover.place(0, NONE, 5, 1);
        mover.range(0, 0, 4, 1, 5, 1);
        mover.other(LOST);
        mover.place(1, 0, 6, 2);
        mover.range(3, 1, 4, 1, 5, 1);
        mover.other(-11);
        Check.due("several", mover.delete(0, 0, false, 4, 2), 3);
        Check.code("several", mover, -12, LOST, LOST, LOST, 20, 0, 4, 2, 53, 1, 4, 1, 5, 1, -11);
        Check.due("several", mover.insert(1, 0, false, ROWS, 1), 0);
        Check.due("several", mover.insert(1, 1, false, 5, 1), 1);
        Check.code("several", mover, -12, LOST, LOST, LOST, 20, 0, 4, 2, 53, 1, 4, 1, 6, 1, -11);
    }

    /** Small lines, and those at the sheet's end, each line looked at by itself. */
    private static void everyLine() {
        for (boolean columns : new boolean[] {false, true}) {
            int last = columns ? COLUMNS : ROWS;
            for (int base : new int[] {0, last - 7}) {
                for (int first = 1; first <= 7; first++) {
                    for (int end = first; end <= 7; end++) {
                        everyChange(columns, last, new int[] {base + first, base + end}, base);
                    }
                }
            }
        }
    }

    private static void everyChange(boolean columns, int last, int[] lines, int base) {
        for (int at = 1; at <= 7; at++) {
            for (int n = 1; n <= 8; n++) {
                range(true, columns, lines, base + at, n, linesLeft(lines, base + at, n));
                range(false, columns, lines, base + at, n, linesPushed(lines, base + at, n, last));
            }
        }
    }

    private static int[] linesLeft(int[] lines, int at, int n) {
        int low = Integer.MAX_VALUE;
        int high = 0;
        for (int line = lines[0]; line <= lines[1]; line++) {
            if (line < at || line >= at + n) {
                int now = line < at ? line : line - n;
                low = Math.min(low, now);
                high = Math.max(high, now);
            }
        }
        return high == 0 ? new int[0] : new int[] {low, high};
    }

    private static int[] linesPushed(int[] lines, int at, int n, int last) {
        int low = Integer.MAX_VALUE;
        int high = 0;
        for (int line = lines[0]; line <= lines[1]; line++) {
            int now = line < at ? line : line + n;
            low = Math.min(low, now);
            high = Math.max(high, now);
        }
        return low > last ? new int[0] : new int[] {low, Math.min(high, last)};
    }

    private static void refused() {
        int[][] bad = {{-1, 0, 1, 1}, {8, 0, 1, 1}, {0, -1, 1, 1}, {0, 8, 1, 1}, {0, 0, 0, 1},
            {0, 0, -1, 1}, {0, 0, 1, 0}, {0, 0, 1, -1}, {0, 0, 1, 16385},
            {Integer.MIN_VALUE, 0, 1, 1}, {0, Integer.MAX_VALUE, 1, 1}, {0, 0, Integer.MIN_VALUE, 1},
            {0, 0, Integer.MAX_VALUE, 1}, {0, 0, 1, Integer.MIN_VALUE}, {0, 0, 1, Integer.MAX_VALUE},
            {0, 0, ROWS + 1, 1}};
        for (int[] b : bad) {
            // A new object each time: one is used for at most 512 calls.
            ReferenceMover mover = Check.withPlace(0, NONE, 1, 1);
            for (boolean columns : new boolean[] {false, true}) {
                String what = java.util.Arrays.toString(b) + (columns ? " columns" : " rows");
                Check.refused("insert" + what, mover, () -> mover.insert(b[0], b[1], columns, b[2], b[3]));
                Check.refused("delete" + what, mover, () -> mover.delete(b[0], b[1], columns, b[2], b[3]));
            }
        }
        ReferenceMover mover = Check.withPlace(0, NONE, 1, 1);
        Check.refused("no such column", mover, () -> mover.insert(0, 0, true, COLUMNS + 1, 1));
        Check.refused("no such column", mover, () -> mover.delete(0, 0, true, COLUMNS + 1, 1));
        Check.due("such a row", mover.insert(0, 0, false, COLUMNS + 1, 1), 0);
        Check.due("such a row", mover.delete(0, 0, false, COLUMNS + 1, 1), 0);
    }
}
