import java.util.Random;

/** Long runs of calls, good and bad ones, each answered by the class and by the model alike. */
public final class ModelTest {
    private static final int RUNS = 6000;
    private static final int CALLS = 512;
    private static final int THROWN = Integer.MIN_VALUE;
    private static final int ROWS = Check.ROWS;
    private static final int COLUMNS = Check.COLUMNS;

    private final Random random;
    private final ReferenceMover mover = new ReferenceMover();
    private final Model model = new Model();
    private final int run;
    private int calls = 0;
    private boolean alike = true;

    private ModelTest(int run) {
        this.run = run;
        // A written seed: the same calls each time.
        random = new Random(run);
    }

    public static void main(String[] args) {
        for (int run = 0; run < RUNS; run++) {
            new ModelTest(run).go();
        }
        Check.end();
    }

    private void go() {
        if (run % 4 == 0) {
            fillNearlyUp();
        }
        while (alike && calls < CALLS) {
            step();
            if (random.nextInt(12) == 0) {
                readAll();
            }
        }
    }

    private void fillNearlyUp() {
        int ranges = 158 + random.nextInt(9);
        for (int i = 0; i < ranges; i++) {
            range(15, 1, 1, 1, 1, 1);
        }
    }

    private void compare(String call, int got, int want) {
        calls++;
        if (got != want) {
            alike = false;
            Check.fail("run " + run + ", call " + calls + ": " + call + " answered " + got
                    + ", the model " + want);
        }
    }

    private void readAll() {
        int size = model.size();
        if (calls + 2 >= CALLS) {
            return;
        }
        compare("size()", mover.size(), size);
        int from = size > 60 ? random.nextInt(size - 50) : 0;
        for (int k = from; alike && k <= Math.min(size, from + 60) && calls < CALLS; k++) {
            compare("word(" + k + ")", mover.word(k), model.word(k));
        }
    }

    private void step() {
        switch (random.nextInt(20)) {
            case 0:
                other(random.nextInt(3) == 0 ? random.nextInt() : random.nextInt(200) - 60);
                break;
            case 1, 2, 3:
                place(marks(3), sheet(true), line(ROWS), line(COLUMNS));
                break;
            case 4, 5, 6, 7:
                anyRange();
                break;
            case 8, 9:
                copy(way(ROWS), way(COLUMNS));
                break;
            case 10, 11, 12:
                lines(random.nextBoolean(), random.nextBoolean());
                break;
            case 13, 14:
                int top = line(ROWS);
                int left = line(COLUMNS);
                rectangle(sheet(false), top, left, below(top, ROWS), below(left, COLUMNS));
                break;
            case 15, 16, 17:
                move(sheet(false), sheet(false), sheet(false), line(ROWS), line(COLUMNS));
                break;
            case 18:
                int k = random.nextInt(8) == 0 ? random.nextInt() : random.nextInt(1003) - 1;
                compare("word(" + k + ")", mover.word(k), model.word(k));
                break;
            default:
                if (random.nextInt(8) == 0) {
                    mover.clear();
                    model.clear();
                    calls++;
                }
                break;
        }
    }

    private void anyRange() {
        int marks = marks(47);
        int top = line(ROWS);
        int left = line(COLUMNS);
        int bottom = below(top, ROWS);
        int right = below(left, COLUMNS);
        boolean whole = random.nextInt(8) != 0;
        if (whole && (marks & 16) != 0 || random.nextInt(12) == 0) {
            top = 1;
            bottom = ROWS;
        }
        if (whole && (marks & 32) != 0 || random.nextInt(12) == 0) {
            left = 1;
            right = COLUMNS;
        }
        range(marks, sheet(true), top, left, bottom, right);
    }

    private int marks(int most) {
        return random.nextInt(24) == 0 ? random.nextInt(90) - 20 : random.nextInt(most + 1);
    }

    /** A sheet of few, so that items meet what is done; at times one that there is not. */
    private int sheet(boolean none) {
        if (random.nextInt(30) == 0) {
            return random.nextInt(12) - 3;
        }
        if (none && random.nextInt(3) == 0) {
            return -1;
        }
        return run % 3 == 0 ? random.nextInt(8) : 6 + random.nextInt(2);
    }

    /** A line near one of the sheet's ends most times; at times one that there is not. */
    private int line(int last) {
        switch (random.nextInt(8)) {
            case 0:
                return 1 + random.nextInt(last);
            case 1, 2:
                return last - random.nextInt(9);
            case 3:
                return random.nextInt(12) == 0 ? odd(last) : 1 + random.nextInt(4);
            default:
                return 1 + random.nextInt(12);
        }
    }

    private int odd(int last) {
        int[] odd = {0, -1, last + 1, last + 2, Integer.MIN_VALUE, Integer.MAX_VALUE};
        return odd[random.nextInt(odd.length)];
    }

    private int below(int first, int last) {
        switch (random.nextInt(8)) {
            case 0:
                return line(last);
            case 1:
                return last;
            default:
                return Math.max(first, Math.min(last, first + random.nextInt(6)));
        }
    }

    private int way(int last) {
        switch (random.nextInt(10)) {
            case 0:
                return random.nextInt(2 * last + 3) - last - 1;
            case 1:
                return (random.nextBoolean() ? 1 : -1) * (last - random.nextInt(12));
            case 2:
                return random.nextInt(10) == 0 ? odd(last) : 0;
            default:
                return random.nextInt(15) - 7;
        }
    }

    private void other(int word) {
        compare("other(" + word + ")", mover.other(word) ? 1 : 0, model.other(word) ? 1 : 0);
    }

    private void place(int marks, int sheet, int row, int column) {
        compare("place(" + marks + ", " + sheet + ", " + row + ", " + column + ")",
                mover.place(marks, sheet, row, column) ? 1 : 0,
                model.place(marks, sheet, row, column) ? 1 : 0);
    }

    private void range(int marks, int sheet, int top, int left, int bottom, int right) {
        compare("range(" + marks + ", " + sheet + ", " + top + ", " + left + ", " + bottom + ", "
                + right + ")", mover.range(marks, sheet, top, left, bottom, right) ? 1 : 0,
                model.range(marks, sheet, top, left, bottom, right) ? 1 : 0);
    }

    private void rectangle(int sheet, int top, int left, int bottom, int right) {
        compare("rectangle(" + sheet + ", " + top + ", " + left + ", " + bottom + ", " + right + ")",
                mover.rectangle(sheet, top, left, bottom, right) ? 1 : 0,
                model.rectangle(sheet, top, left, bottom, right) ? 1 : 0);
    }

    private static int answer(Check.Call call) {
        try {
            return call.run();
        } catch (IllegalArgumentException e) {
            return THROWN;
        }
    }

    private void copy(int down, int along) {
        compare("copy(" + down + ", " + along + ")", answer(() -> mover.copy(down, along)),
                answer(() -> model.copy(down, along)));
    }

    private void lines(boolean out, boolean columns) {
        int home = sheet(false);
        int sheet = sheet(false);
        int at = line(columns ? COLUMNS : ROWS);
        int n = random.nextInt(6) == 0 ? line(16384) : 1 + random.nextInt(5);
        compare((out ? "delete(" : "insert(") + home + ", " + sheet + ", " + columns + ", " + at + ", "
                + n + ")",
                answer(() -> out ? mover.delete(home, sheet, columns, at, n)
                        : mover.insert(home, sheet, columns, at, n)),
                answer(() -> out ? model.delete(home, sheet, columns, at, n)
                        : model.insert(home, sheet, columns, at, n)));
    }

    private void move(int home, int newHome, int sheet, int row, int column) {
        compare("move(" + home + ", " + newHome + ", " + sheet + ", " + row + ", " + column + ")",
                answer(() -> mover.move(home, newHome, sheet, row, column)),
                answer(() -> model.move(home, newHome, sheet, row, column)));
    }
}
