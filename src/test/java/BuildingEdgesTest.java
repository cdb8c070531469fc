import java.util.Arrays;

/** The edges of the promises 1 to 7, sentence by sentence. */
public final class BuildingEdgesTest {
    private static final int NONE = Check.NONE;
    private static final int ROWS = Check.ROWS;
    private static final int COLUMNS = Check.COLUMNS;
    private static final int LEAST = Integer.MIN_VALUE;
    private static final int MOST = Integer.MAX_VALUE;

    public static void main(String[] args) {
        newObjectHasNoCode();
        newObjectHasItsOwnState();
        clearLeavesNoCode();
        clearGivesTheRoomBack();
        otherTakesWhatIsNoPlaceOrRange();
        otherRefusesKindsFourAndFive();
        placeHasMarks();
        placeHasASheet();
        placeHasARow();
        placeHasAColumn();
        rangeHasMarks();
        rangeOfColumnsHasAllRows();
        rangeOfRowsHasAllColumns();
        rangeHasASheet();
        rangeHasRows();
        rangeHasColumns();
        rangeHasItsLinesInOrder();
        roomForOther();
        roomForPlace();
        roomForRange();
        sizeCountsNumbers();
        wordIsZeroIfThereIsNone();
        Check.end();
    }

    private static int place(ReferenceMover mover, int... a) {
        return mover.place(a[0], a[1], a[2], a[3]) ? 1 : 0;
    }

    private static int range(ReferenceMover mover, int... a) {
        return mover.range(a[0], a[1], a[2], a[3], a[4], a[5]) ? 1 : 0;
    }

    private static void placeTaken(int... a) {
        Check.putsBehind("place" + Arrays.toString(a), m -> place(m, a), 4 + 16 * a[0], a[1], a[2], a[3]);
    }

    private static void placeRefused(int... a) {
        Check.answersFalse("place" + Arrays.toString(a), m -> place(m, a));
    }

    private static void rangeTaken(int... a) {
        Check.putsBehind("range" + Arrays.toString(a), m -> range(m, a),
                5 + 16 * a[0], a[1], a[2], a[3], a[4], a[5]);
    }

    private static void rangeRefused(int... a) {
        Check.answersFalse("range" + Arrays.toString(a), m -> range(m, a));
    }

    /** Promise 1: No code. */
    private static void newObjectHasNoCode() {
        ReferenceMover mover = new ReferenceMover();
        Check.due("size of a new object", mover.size(), 0);
        for (int k : new int[] {0, 1, 5, 999, 1000, -1, LEAST, MOST}) {
            Check.due("word(" + k + ") of a new object", mover.word(k), 0);
        }
        for (int k = 0; k < 400; k++) {
            Check.due("word(" + k + ") of a new object", mover.word(k), 0);
        }
    }

    /** Promise 1, and 11: what another object holds is nothing to a new one. */
    private static void newObjectHasItsOwnState() {
        ReferenceMover some = Before.SOME.make();
        ReferenceMover fresh = new ReferenceMover();
        Check.code("a new object beside another", fresh);
        Check.yes("other", fresh.other(9));
        Check.code("the other object", some, Before.SOME.code());
        Before.EMPTY.checkRectangle("a new object beside another", fresh);
        Before.SOME.checkRectangle("the other object", some);
    }

    /** Promise 2: There is no code any more (and nothing else is said to change). */
    private static void clearLeavesNoCode() {
        for (Before before : Before.values()) {
            ReferenceMover mover = before.make();
            mover.clear();
            Check.due("size after clear of " + before, mover.size(), 0);
            for (int k = 0; k < 250; k++) {
                Check.due("word(" + k + ") after clear of " + before, mover.word(k), 0);
            }
            Check.due("word(999) after clear of " + before, mover.word(999), 0);
            before.checkRectangle("clear of " + before, mover);

            mover = before.make();
            mover.clear();
            mover.clear();
            Check.due("copy after clear of " + before, mover.copy(1, 1), 0);
            Check.due("move after clear of " + before, mover.move(0, 1, 2, 1, 1), 0);
            Check.code("changes after clear of " + before, mover);
        }
    }

    /** Promise 2, with 3 to 5: a full code that was cleared takes 1000 numbers again, and no more. */
    private static void clearGivesTheRoomBack() {
        ReferenceMover mover = Before.FULL.make();
        mover.clear();
        for (int i = 0; i < 166; i++) {
            Check.yes("range after clear", mover.range(3, 1, 1, 2, 3, 4));
        }
        Check.yes("place at 996 after clear", mover.place(3, 1, 2, 3));
        Check.no("other at 1000 after clear", mover.other(1));
        Check.due("size after clear and filling", mover.size(), 1000);
        Check.due("the first word", mover.word(0), 53);
        Check.due("the last word", mover.word(999), 3);
    }

    /** Promise 3: A number that isn't of kind 4 or 5 is put behind the code (below 0 none is). */
    private static void otherTakesWhatIsNoPlaceOrRange() {
        for (int word : new int[] {0, 3, 6, 15, 16, 19, 22, Check.LOST, -1, -10, -11, -12, -13, -27, -28,
            LEAST, LEAST + 3, LEAST + 4, LEAST + 5, LEAST + 6, MOST, MOST - 9, MOST - 12}) {
            Check.putsBehind("other(" + word + ")", m -> m.other(word) ? 1 : 0, word);
        }
        for (int first = -320; first < 4096; first += 64) {
            everyOther(first);
        }
        everyOther(LEAST);
        everyOther(MOST - 63);
        everyOther(-65536);
        everyOther(65536 - 32);
    }

    private static void everyOther(int first) {
        ReferenceMover mover = new ReferenceMover();
        int[] want = new int[64];
        int length = 0;
        for (int i = 0; i < 64; i++) {
            int word = first + i;
            boolean taken = word < 0 || (word & 15) != 4 && (word & 15) != 5;
            Check.due("other(" + word + ")", mover.other(word) ? 1 : 0, taken ? 1 : 0);
            if (taken) {
                want[length] = word;
                length++;
            }
        }
        want = Arrays.copyOf(want, length);
        Check.code("others from " + first, mover, want);
        Check.due("copy of others from " + first, mover.copy(1, 1), 0);
        Check.due("move of others from " + first, mover.move(0, 1, 2, 1, 1), 0);
        Check.code("others from " + first + " stay", mover, want);
    }

    /** Promise 3: false if it is. */
    private static void otherRefusesKindsFourAndFive() {
        for (int word : new int[] {4, 5, 20, 21, 36, 37, 52, 53, 68, 69, 757, 773, MOST - 10, MOST - 11}) {
            Check.answersFalse("other(" + word + ")", m -> m.other(word) ? 1 : 0);
        }
    }

    /** Promise 4: false if marks aren't 0 .. 3. */
    private static void placeHasMarks() {
        for (int marks = 0; marks <= 3; marks++) {
            placeTaken(marks, 5, 6, 7);
        }
        for (int marks : new int[] {-1, 4, 5, 16, -16, LEAST, LEAST + 1, MOST, 1 << 28}) {
            placeRefused(marks, 5, 6, 7);
        }
    }

    /** Promise 4: sheet isn't NONE .. 7. */
    private static void placeHasASheet() {
        for (int sheet = NONE; sheet <= 7; sheet++) {
            placeTaken(1, sheet, 6, 7);
        }
        for (int sheet : new int[] {-2, 8, LEAST, MOST}) {
            placeRefused(1, sheet, 6, 7);
        }
    }

    /** Promise 4: there is no such row. */
    private static void placeHasARow() {
        for (int row : new int[] {1, 2, COLUMNS + 1, ROWS - 1, ROWS}) {
            placeTaken(2, 0, row, 7);
        }
        for (int row : new int[] {0, -1, ROWS + 1, LEAST, MOST}) {
            placeRefused(2, 0, row, 7);
        }
    }

    /** Promise 4: there is no such column. */
    private static void placeHasAColumn() {
        for (int column : new int[] {1, 2, COLUMNS - 1, COLUMNS}) {
            placeTaken(3, NONE, 6, column);
        }
        for (int column : new int[] {0, -1, COLUMNS + 1, ROWS, LEAST, MOST}) {
            placeRefused(3, NONE, 6, column);
        }
    }

    /** Promise 5: false if marks aren't 0 .. 47. */
    private static void rangeHasMarks() {
        for (int marks = 0; marks <= 47; marks++) {
            rangeTaken(marks, 2, 1, 1, ROWS, COLUMNS);
        }
        for (int marks = 48; marks <= 64; marks++) {
            rangeRefused(marks, 2, 1, 1, ROWS, COLUMNS);
        }
        for (int marks : new int[] {-1, -16, -48, LEAST, LEAST + 1, MOST, 1 << 28}) {
            rangeRefused(marks, 2, 1, 1, ROWS, COLUMNS);
            rangeRefused(marks, 2, 3, 4, 5, 6);
        }
        for (int marks = 0; marks <= 15; marks++) {
            rangeTaken(marks, 2, 3, 4, 5, 6);
        }
    }

    /** Promise 5: with 16 and not all rows. */
    private static void rangeOfColumnsHasAllRows() {
        for (int marks = 16; marks <= 31; marks++) {
            rangeTaken(marks, 2, 1, 4, ROWS, 5);
            rangeRefused(marks, 2, 2, 4, ROWS, 5);
            rangeRefused(marks, 2, 1, 4, ROWS - 1, 5);
            rangeRefused(marks, 2, 3, 1, 4, COLUMNS);
        }
        rangeTaken(16, NONE, 1, 1, ROWS, 1);
        rangeTaken(16, NONE, 1, COLUMNS, ROWS, COLUMNS);
        rangeRefused(16, NONE, 1, 1, COLUMNS, 1);
        rangeRefused(16, NONE, 0, 1, ROWS, 1);
        rangeRefused(16, NONE, 1, 1, ROWS + 1, 1);
    }

    /** Promise 5: with 32 and not all columns. */
    private static void rangeOfRowsHasAllColumns() {
        for (int marks = 32; marks <= 47; marks++) {
            rangeTaken(marks, 2, 4, 1, 5, COLUMNS);
            rangeRefused(marks, 2, 4, 2, 5, COLUMNS);
            rangeRefused(marks, 2, 4, 1, 5, COLUMNS - 1);
            rangeRefused(marks, 2, 1, 3, ROWS, 4);
        }
        rangeTaken(32, NONE, 1, 1, 1, COLUMNS);
        rangeTaken(32, NONE, ROWS, 1, ROWS, COLUMNS);
        rangeRefused(32, NONE, 1, 0, 1, COLUMNS);
        rangeRefused(32, NONE, 1, 1, 1, COLUMNS + 1);
        rangeRefused(32, NONE, 1, 1, 1, ROWS);
    }

    /** Promise 5: sheet isn't NONE .. 7. */
    private static void rangeHasASheet() {
        for (int sheet = NONE; sheet <= 7; sheet++) {
            rangeTaken(9, sheet, 3, 4, 5, 6);
        }
        for (int sheet : new int[] {-2, 8, LEAST, MOST}) {
            rangeRefused(9, sheet, 3, 4, 5, 6);
            rangeRefused(16, sheet, 1, 4, ROWS, 6);
        }
    }

    /** Promise 5: there are no such rows. */
    private static void rangeHasRows() {
        for (int[] rows : new int[][] {{1, 1}, {1, 2}, {1, ROWS}, {1, ROWS - 1}, {2, ROWS},
            {ROWS - 1, ROWS}, {ROWS, ROWS}}) {
            rangeTaken(6, 1, rows[0], 4, rows[1], 6);
        }
        for (int[] rows : new int[][] {{0, 1}, {0, 0}, {-1, 5}, {1, ROWS + 1}, {0, ROWS},
            {ROWS, ROWS + 1}, {ROWS + 1, ROWS + 1}, {LEAST, 5}, {LEAST, LEAST}, {LEAST, MOST},
            {5, MOST}, {MOST, MOST}}) {
            rangeRefused(6, 1, rows[0], 4, rows[1], 6);
        }
    }

    /** Promise 5: there are no such columns. */
    private static void rangeHasColumns() {
        for (int[] columns : new int[][] {{1, 1}, {1, 2}, {1, COLUMNS}, {1, COLUMNS - 1}, {2, COLUMNS},
            {COLUMNS - 1, COLUMNS}, {COLUMNS, COLUMNS}}) {
            rangeTaken(6, 1, 4, columns[0], 6, columns[1]);
        }
        for (int[] columns : new int[][] {{0, 1}, {0, 0}, {-1, 5}, {1, COLUMNS + 1}, {0, COLUMNS},
            {COLUMNS, COLUMNS + 1}, {COLUMNS + 1, COLUMNS + 1}, {LEAST, 5}, {LEAST, LEAST},
            {LEAST, MOST}, {5, MOST}, {MOST, MOST}, {1, ROWS}}) {
            rangeRefused(6, 1, 4, columns[0], 6, columns[1]);
        }
    }

    /** Promise 5: the lower row is less than the upper one, the right column than the left one. */
    private static void rangeHasItsLinesInOrder() {
        rangeTaken(0, 1, 5, 6, 5, 6);
        rangeRefused(0, 1, 5, 6, 4, 6);
        rangeRefused(0, 1, 5, 6, 5, 5);
        rangeRefused(0, 1, 5, 6, 4, 5);
        rangeRefused(0, 1, ROWS, 6, 1, 6);
        rangeRefused(0, 1, 5, COLUMNS, 5, 1);
        rangeRefused(0, 1, ROWS, 6, ROWS - 1, 6);
        rangeRefused(0, 1, 5, COLUMNS, 5, COLUMNS - 1);
        rangeRefused(0, 1, 2, 6, 1, 6);
        rangeRefused(0, 1, 5, 2, 5, 1);
        rangeRefused(0, 1, MOST, 6, LEAST, 6);
        rangeRefused(0, 1, 5, MOST, 5, LEAST);
        rangeRefused(16, 1, 1, 6, ROWS, 5);
        rangeRefused(32, 1, 6, 1, 5, COLUMNS);
        rangeRefused(16, 1, ROWS, 5, 1, 6);
        rangeRefused(32, 1, 5, COLUMNS, 6, 1);
    }

    /** A code of so many numbers. */
    private static ReferenceMover ofSize(int size) {
        ReferenceMover mover = new ReferenceMover();
        for (int i = 0; i < size / 6; i++) {
            Check.yes("range", mover.range(0, NONE, 2, 3, 4, 5));
        }
        for (int i = 0; i < size % 6; i++) {
            Check.yes("other", mover.other(6));
        }
        return mover;
    }

    private static int[] codeOfSize(int size, int... item) {
        int[] code = new int[size + item.length];
        Arrays.fill(code, 6);
        int[] range = {5, NONE, 2, 3, 4, 5};
        for (int i = 0; i < size / 6; i++) {
            System.arraycopy(range, 0, code, 6 * i, 6);
        }
        System.arraycopy(item, 0, code, size, item.length);
        return code;
    }

    /** At each size near the end the item is taken, if it is at most so long, or else refused. */
    private static void room(String name, int longest, Check.Attempt attempt, int... item) {
        for (int size = 980; size <= 1000; size++) {
            int at = size;
            boolean taken = size <= longest;
            Check.Maker maker = () -> {
                ReferenceMover mover = ofSize(at);
                Check.due(name + " at " + at, attempt.on(mover), taken ? 1 : 0);
                return mover;
            };
            Check.longCode(name + " at " + at, maker, taken ? codeOfSize(at, item) : codeOfSize(at));
        }
    }

    /** Promise 3: false if 1000 are there. */
    private static void roomForOther() {
        room("other", 999, m -> m.other(-5) ? 1 : 0, -5);
    }

    /** Promise 4: false if more than 996 numbers are there. */
    private static void roomForPlace() {
        room("place", 996, m -> m.place(3, NONE, ROWS, COLUMNS) ? 1 : 0, 52, NONE, ROWS, COLUMNS);
    }

    /** Promise 5: false if more than 994 numbers are there. */
    private static void roomForRange() {
        room("range", 994, m -> m.range(16, 7, 1, 8, ROWS, 9) ? 1 : 0, 261, 7, 1, 8, ROWS, 9);
    }

    /** Promise 6: How many numbers the code has. */
    private static void sizeCountsNumbers() {
        ReferenceMover mover = new ReferenceMover();
        Check.due("size of no code", mover.size(), 0);
        mover.other(0);
        Check.due("size with a number", mover.size(), 1);
        mover.place(0, NONE, 1, 1);
        Check.due("size with a place", mover.size(), 5);
        mover.range(0, NONE, 1, 1, 1, 1);
        Check.due("size with a range", mover.size(), 11);
        mover.other(4);
        mover.place(4, NONE, 1, 1);
        mover.range(48, NONE, 1, 1, 1, 1);
        Check.due("size after refused calls", mover.size(), 11);
        mover.copy(ROWS - 1, 0);
        Check.due("size after a change", mover.size(), 11);
        mover.place(3, NONE, 1, 1);
        mover.copy(1, 0);
        Check.due("size after two were lost", mover.size(), 7);
        mover.clear();
        Check.due("size after clear", mover.size(), 0);
        for (int size = 990; size <= 1000; size++) {
            Check.due("size " + size, ofSize(size).size(), size);
        }
    }

    /** Promise 7: A number of the code; 0 if there is none. */
    private static void wordIsZeroIfThereIsNone() {
        for (Before before : Before.values()) {
            int[] code = before.code();
            ReferenceMover mover = before.make();
            for (int k : new int[] {LEAST, LEAST + 1, -1000, -2, -1, 0, 1, code.length / 2,
                code.length - 2, code.length - 1, code.length, code.length + 1, 998, 999, 1000, 1001,
                1 << 16, MOST - 1, MOST}) {
                Check.due("word(" + k + ") of " + before, mover.word(k),
                        k >= 0 && k < code.length ? code[k] : 0);
            }
            Check.longCode("all words of " + before, before::make, code);
        }
        ReferenceMover mover = Before.FULL.make();
        Check.due("all are lost", mover.copy(-2, 0), 167);
        for (int k = 0; k < 200; k++) {
            Check.due("word(" + k + ")", mover.word(k), k < 167 ? Check.LOST : 0);
        }
        Check.due("word(999)", mover.word(999), 0);
    }
}
