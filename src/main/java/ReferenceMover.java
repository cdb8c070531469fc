/**
 * What becomes of the references in a workbook's formulas when they are copied, and when rows or
 * columns are put in or taken out, or cells are cut and put elsewhere: in the code of the formulas.
 */
public final class ReferenceMover {
    /** Nothing there: as a sheet, that of the cell in which the formula is. */
    public static final int NONE = -1;

    private static final int LAST_SHEET = 7;
    private static final int LAST_ROW = 1048576;
    private static final int LAST_COLUMN = 16384;
    private static final int MOST_WORDS = 1000;
    private static final int MOST_LINES = 16384;

    private static final int KINDS = 16;
    private static final int PLACE = 4;
    private static final int RANGE = 5;
    private static final int PLACE_LENGTH = 4;
    private static final int RANGE_LENGTH = 6;
    private static final int LOST = 3 + KINDS * 4;

    private static final int FIXED_COLUMN = 1;
    private static final int FIXED_ROW = 2;
    /** A range's $ of its last column and row are those of its first ones times this. */
    private static final int LAST_CORNER = 4;
    private static final int MOST_PLACE_MARKS = 3;
    private static final int MOST_RANGE_MARKS = 47;
    private static final int WHOLE_COLUMNS = 16;
    private static final int WHOLE_ROWS = 32;

    private final int[] code;
    private int size;
    private Area cut;
    /** The item that is being changed; one object serves all items of all calls. */
    private final Reference reference;

    public ReferenceMover() {
        code = new int[MOST_WORDS];
        size = 0;
        cut = new Area(0, 1, 1, 1, 1);
        reference = new Reference();
    }

    public void clear() {
        size = 0;
    }

    public boolean other(int word) {
        if (isOfKind(word, PLACE) || isOfKind(word, RANGE) || !hasRoomFor(1)) {
            return false;
        }
        append(word);
        return true;
    }

    public boolean place(int marks, int sheet, int row, int column) {
        if (marks < 0 || marks > MOST_PLACE_MARKS || !isSheetOrNone(sheet)
                || !isLine(row, LAST_ROW) || !isLine(column, LAST_COLUMN)
                || !hasRoomFor(PLACE_LENGTH)) {
            return false;
        }
        append(PLACE + KINDS * marks);
        append(sheet);
        append(row);
        append(column);
        return true;
    }

    public boolean range(int marks, int sheet, int top, int left, int bottom, int right) {
        if (marks < 0 || marks > MOST_RANGE_MARKS || !isSheetOrNone(sheet)
                || !areLines(top, bottom, LAST_ROW) || !areLines(left, right, LAST_COLUMN)
                || !hasRoomFor(RANGE_LENGTH)) {
            return false;
        }
        if (has(marks, WHOLE_COLUMNS) && !areAllLines(top, bottom, LAST_ROW)
                || has(marks, WHOLE_ROWS) && !areAllLines(left, right, LAST_COLUMN)) {
            return false;
        }
        append(RANGE + KINDS * marks);
        append(sheet);
        append(top);
        append(left);
        append(bottom);
        append(right);
        return true;
    }

    public int size() {
        return size;
    }

    public int word(int k) {
        return k >= 0 && k < size && k < code.length ? code[k] : 0;
    }

    public int copy(int down, int along) throws IllegalArgumentException {
        if (down <= -LAST_ROW || down >= LAST_ROW) {
            throw new IllegalArgumentException("down is not -1048575 .. 1048575");
        }
        if (along <= -LAST_COLUMN || along >= LAST_COLUMN) {
            throw new IllegalArgumentException("along is not -16383 .. 16383");
        }
        return changeReferences(new Copying(down, along));
    }

    public int insert(int home, int sheet, boolean columns, int at, int n)
            throws IllegalArgumentException {
        checkLines(home, sheet, columns, at, n);
        return changeReferences(new LinesPutIn(home, sheet, columns, at, n));
    }

    public int delete(int home, int sheet, boolean columns, int at, int n)
            throws IllegalArgumentException {
        checkLines(home, sheet, columns, at, n);
        return changeReferences(new LinesTakenOut(home, sheet, columns, at, n));
    }

    public boolean rectangle(int sheet, int top, int left, int bottom, int right) {
        if (!isSheet(sheet) || !areLines(top, bottom, LAST_ROW)
                || !areLines(left, right, LAST_COLUMN)) {
            return false;
        }
        cut = new Area(sheet, top, left, bottom, right);
        return true;
    }

    public int move(int home, int newHome, int sheet, int row, int column)
            throws IllegalArgumentException {
        if (!isSheet(home) || !isSheet(newHome) || !isSheet(sheet)) {
            throw new IllegalArgumentException("there is no such sheet");
        }
        if (!isLine(row, LAST_ROW) || !isLine(column, LAST_COLUMN)) {
            throw new IllegalArgumentException("there is no such row or column");
        }
        int bottom = row + cut.bottom - cut.top;
        int right = column + cut.right - cut.left;
        if (bottom > LAST_ROW || right > LAST_COLUMN) {
            throw new IllegalArgumentException("not all of the rectangle would lie on the sheet");
        }
        Area target = new Area(sheet, row, column, bottom, right);
        return changeReferences(new Moving(home, newHome, cut, target));
    }

    private static boolean isSheet(int sheet) {
        return sheet >= 0 && sheet <= LAST_SHEET;
    }

    private static boolean isSheetOrNone(int sheet) {
        return sheet == NONE || isSheet(sheet);
    }

    private static boolean isLine(int line, int lastLine) {
        return line >= 1 && line <= lastLine;
    }

    private static boolean areLines(int first, int last, int lastLine) {
        return first >= 1 && first <= last && last <= lastLine;
    }

    private static boolean areAllLines(int first, int last, int lastLine) {
        return first == 1 && last == lastLine;
    }

    private static boolean has(int marks, int mark) {
        return (marks & mark) != 0;
    }

    private static boolean isOfKind(int head, int kind) {
        // A number below 0 has no kind, whatever its lowest bits are.
        return head >= 0 && head % KINDS == kind;
    }

    private static void checkLines(int home, int sheet, boolean columns, int at, int n) {
        if (!isSheet(home) || !isSheet(sheet)) {
            throw new IllegalArgumentException("there is no such sheet");
        }
        if (!isLine(at, columns ? LAST_COLUMN : LAST_ROW)) {
            throw new IllegalArgumentException("there is no such line");
        }
        if (n < 1 || n > MOST_LINES) {
            throw new IllegalArgumentException("n is not 1 .. 16384");
        }
    }

    private boolean hasRoomFor(int words) {
        return size + words <= MOST_WORDS;
    }

    private void append(int word) {
        put(size, word);
        size++;
    }

    private void put(int k, int word) {
        if (k >= 0 && k < code.length) {
            code[k] = word;
        }
    }

    /** Changes every place and range of the code; how many changed or were lost. */
    private int changeReferences(Change change) {
        int changed = 0;
        // An item never gets longer, so the new code can be written over the old one.
        int write = 0;
        int length = 1;
        for (int read = 0; read < size; read += length) {
            length = itemLength(word(read));
            if (length == 1) {
                put(write, word(read));
                write++;
                continue;
            }
            load(read, length);
            if (!change.keeps(reference)) {
                put(write, LOST);
                write++;
                changed++;
                continue;
            }
            if (store(read, write, length)) {
                changed++;
            }
            write += length;
        }
        size = write;
        return changed;
    }

    private static int itemLength(int head) {
        if (isOfKind(head, PLACE)) {
            return PLACE_LENGTH;
        }
        return isOfKind(head, RANGE) ? RANGE_LENGTH : 1;
    }

    private void load(int read, int length) {
        boolean isRange = length == RANGE_LENGTH;
        int marks = word(read) / KINDS;
        // A place is taken as a range of one cell: its $ hold for both corners.
        int lastMarks = isRange ? marks / LAST_CORNER : marks;
        reference.isRange = isRange;
        reference.whole = marks & (WHOLE_COLUMNS | WHOLE_ROWS);
        reference.sheet = word(read + 1);
        reference.rows.setFirst(word(read + 2), has(marks, FIXED_ROW));
        reference.columns.setFirst(word(read + 3), has(marks, FIXED_COLUMN));
        reference.rows.setLast(word(read + length - 2), has(lastMarks, FIXED_ROW));
        reference.columns.setLast(word(read + length - 1), has(lastMarks, FIXED_COLUMN));
    }

    /** Writes the reference; true if its numbers are not those that stand at read. */
    private boolean store(int read, int write, int length) {
        boolean changed = false;
        for (int i = 0; i < length; i++) {
            // The place of writing is never beyond that of reading, so what is still to be
            // compared is not written over.
            int value = reference.wordAt(i);
            if (value != word(read + i)) {
                changed = true;
            }
            put(write + i, value);
        }
        return changed;
    }

    /** The rows or the columns of a reference, from the first to the last one. */
    private static final class Span {
        private final int lastLine;
        int first;
        int last;
        boolean firstFixed;
        boolean lastFixed;

        Span(int lastLine) {
            this.lastLine = lastLine;
        }

        void setFirst(int line, boolean fixed) {
            first = line;
            firstFixed = fixed;
        }

        void setLast(int line, boolean fixed) {
            last = line;
            lastFixed = fixed;
        }

        boolean isWithin(int low, int high) {
            return first >= low && last <= high;
        }

        void shift(int by) {
            first += by;
            last += by;
        }

        /** Moves what has no $; false if it would leave the sheet. */
        boolean shiftLoose(int by) {
            if (!firstFixed) {
                first += by;
            }
            if (!lastFixed) {
                last += by;
            }
            if (!isLine(first, lastLine) || !isLine(last, lastLine)) {
                return false;
            }
            if (first > last) {
                exchange();
            }
            return true;
        }

        private void exchange() {
            int line = first;
            boolean fixed = firstFixed;
            setFirst(last, lastFixed);
            setLast(line, fixed);
        }

        /** n lines are put in before line at; false if none of these lines is left. */
        boolean openGap(int at, int n) {
            if (areAllLines(first, last, lastLine)) {
                return true;
            }
            if (first >= at) {
                first += n;
            }
            if (last >= at) {
                last = Math.min(last + n, lastLine);
            }
            return first <= lastLine;
        }

        /** n lines are taken out from line at on; false if none of these lines is left. */
        boolean closeGap(int at, int n) {
            if (areAllLines(first, last, lastLine)) {
                return true;
            }
            // This may be beyond the sheet; then no line is behind what is taken out.
            int behind = at + n;
            if (first >= behind) {
                first -= n;
            } else if (first >= at) {
                first = at;
            }
            if (last >= behind) {
                last -= n;
            } else if (last >= at) {
                last = at - 1;
            }
            return first <= last;
        }
    }

    /** A place or a range, taken out of the code. */
    private static final class Reference {
        final Span rows = new Span(LAST_ROW);
        final Span columns = new Span(LAST_COLUMN);
        boolean isRange;
        int whole;
        int sheet;

        int sheetSeenFrom(int home) {
            return sheet == NONE ? home : sheet;
        }

        int wordAt(int i) {
            switch (i) {
                case 0:
                    return isRange ? RANGE + KINDS * rangeMarks() : PLACE + KINDS * firstMarks();
                case 1:
                    return sheet;
                case 2:
                    return rows.first;
                case 3:
                    return columns.first;
                case 4:
                    return rows.last;
                default:
                    return columns.last;
            }
        }

        private int firstMarks() {
            return cornerMarks(rows.firstFixed, columns.firstFixed);
        }

        private int rangeMarks() {
            int lastMarks = cornerMarks(rows.lastFixed, columns.lastFixed);
            return whole + firstMarks() + LAST_CORNER * lastMarks;
        }

        private static int cornerMarks(boolean fixedRow, boolean fixedColumn) {
            return (fixedRow ? FIXED_ROW : 0) + (fixedColumn ? FIXED_COLUMN : 0);
        }
    }

    /** A rectangle of cells on a sheet. */
    private static final class Area {
        final int sheet;
        final int top;
        final int left;
        final int bottom;
        final int right;

        Area(int sheet, int top, int left, int bottom, int right) {
            this.sheet = sheet;
            this.top = top;
            this.left = left;
            this.bottom = bottom;
            this.right = right;
        }

        boolean holds(Reference reference, int home) {
            return reference.sheetSeenFrom(home) == sheet
                    && reference.rows.isWithin(top, bottom)
                    && reference.columns.isWithin(left, right);
        }
    }

    /** What is done to each place and range of the code. */
    private abstract static class Change {
        /** Changes the reference; false if it is LOST. */
        abstract boolean keeps(Reference reference);
    }

    private static final class Copying extends Change {
        private final int down;
        private final int along;

        Copying(int down, int along) {
            this.down = down;
            this.along = along;
        }

        @Override
        boolean keeps(Reference reference) {
            return (has(reference.whole, WHOLE_COLUMNS) || reference.rows.shiftLoose(down))
                    && (has(reference.whole, WHOLE_ROWS) || reference.columns.shiftLoose(along));
        }
    }

    /** What is done to the lines, rows or columns, of one sheet. */
    private abstract static class LineChange extends Change {
        private final int home;
        private final int sheet;
        private final boolean columns;
        final int at;
        final int n;

        LineChange(int home, int sheet, boolean columns, int at, int n) {
            this.home = home;
            this.sheet = sheet;
            this.columns = columns;
            this.at = at;
            this.n = n;
        }

        @Override
        boolean keeps(Reference reference) {
            return reference.sheetSeenFrom(home) != sheet
                    || keepsLines(columns ? reference.columns : reference.rows);
        }

        abstract boolean keepsLines(Span lines);
    }

    private static final class LinesPutIn extends LineChange {
        LinesPutIn(int home, int sheet, boolean columns, int at, int n) {
            super(home, sheet, columns, at, n);
        }

        @Override
        boolean keepsLines(Span lines) {
            return lines.openGap(at, n);
        }
    }

    private static final class LinesTakenOut extends LineChange {
        LinesTakenOut(int home, int sheet, boolean columns, int at, int n) {
            super(home, sheet, columns, at, n);
        }

        @Override
        boolean keepsLines(Span lines) {
            return lines.closeGap(at, n);
        }
    }

    private static final class Moving extends Change {
        private final int home;
        private final int newHome;
        private final Area cut;
        private final Area target;

        Moving(int home, int newHome, Area cut, Area target) {
            this.home = home;
            this.newHome = newHome;
            this.cut = cut;
            this.target = target;
        }

        @Override
        boolean keeps(Reference reference) {
            int sheet = reference.sheetSeenFrom(home);
            if (cut.holds(reference, home)) {
                reference.rows.shift(target.top - cut.top);
                reference.columns.shift(target.left - cut.left);
                sheet = target.sheet;
            } else if (target.holds(reference, home)) {
                return false;
            }
            if (reference.sheet != NONE || sheet != newHome) {
                reference.sheet = sheet;
            }
            return true;
        }
    }
}
