import java.util.ArrayList;
import java.util.List;

/**
 * The document once more, told another way than the class tells it: items are rows of numbers in a
 * list, and each line of an item is looked at by itself. ModelTest compares the two.
 */
final class Model {
    private static final int LOST = Check.LOST;
    /** Where an item of a kind has its lines: rows and columns, first and last ones. */
    private static final int[][] PLACE_LINES = {{2, 2}, {3, 3}};
    private static final int[][] RANGE_LINES = {{2, 4}, {3, 5}};
    /** The $ of those lines. */
    private static final int[][] PLACE_MARKS = {{2, 2}, {1, 1}};
    private static final int[][] RANGE_MARKS = {{2, 8}, {1, 4}};
    private static final int[] LAST = {Check.ROWS, Check.COLUMNS};

    private List<int[]> items = new ArrayList<>();
    private int[] cut = {0, 1, 1, 1, 1};

    private interface Change {
        /** The item after the change; null if it is LOST. */
        int[] of(int[] item);
    }

    int size() {
        int size = 0;
        for (int[] item : items) {
            size += item.length;
        }
        return size;
    }

    int word(int k) {
        long from = 0;
        for (int[] item : items) {
            if (k >= from && k < from + item.length) {
                return item[(int) (k - from)];
            }
            from += item.length;
        }
        return 0;
    }

    void clear() {
        items.clear();
    }

    boolean other(int word) {
        boolean isItem = word >= 0 && ((word & 15) == 4 || (word & 15) == 5);
        return !isItem && add(word);
    }

    boolean place(int marks, int sheet, int row, int column) {
        return in(marks, 0, 3) && in(sheet, -1, 7) && in(row, 1, LAST[0]) && in(column, 1, LAST[1])
                && add(4 + 16 * marks, sheet, row, column);
    }

    boolean range(int marks, int sheet, int top, int left, int bottom, int right) {
        boolean columns = marks >= 16 && marks < 32;
        boolean rows = marks >= 32;
        return in(marks, 0, 47) && in(sheet, -1, 7)
                && in(top, 1, columns ? 1 : LAST[0]) && in(bottom, columns ? LAST[0] : top, LAST[0])
                && in(left, 1, rows ? 1 : LAST[1]) && in(right, rows ? LAST[1] : left, LAST[1])
                && add(5 + 16 * marks, sheet, top, left, bottom, right);
    }

    boolean rectangle(int sheet, int top, int left, int bottom, int right) {
        boolean good = in(sheet, 0, 7) && in(top, 1, LAST[0]) && in(bottom, top, LAST[0])
                && in(left, 1, LAST[1]) && in(right, left, LAST[1]);
        if (good) {
            cut = new int[] {sheet, top, left, bottom, right};
        }
        return good;
    }

    int copy(int down, int along) {
        require(in(down, 1 - LAST[0], LAST[0] - 1) && in(along, 1 - LAST[1], LAST[1] - 1));
        int[] by = {down, along};
        return change(item -> {
            int[] now = item.clone();
            boolean kept = copyLines(now, 0, by) && copyLines(now, 1, by);
            return kept ? now : null;
        });
    }

    private static boolean copyLines(int[] item, int way, int[] by) {
        int marks = item[0] >> 4;
        boolean isRange = item.length == 6;
        if (isRange && (marks & (way == 0 ? 16 : 32)) != 0) {
            return true;
        }
        int[] at = isRange ? RANGE_LINES[way] : PLACE_LINES[way];
        int[] fixed = isRange ? RANGE_MARKS[way] : PLACE_MARKS[way];
        boolean kept = true;
        for (int end = 0; end < (isRange ? 2 : 1); end++) {
            item[at[end]] += (marks & fixed[end]) != 0 ? 0 : by[way];
            kept &= in(item[at[end]], 1, LAST[way]);
        }
        if (item[at[0]] > item[at[1]]) {
            int line = item[at[0]];
            item[at[0]] = item[at[1]];
            item[at[1]] = line;
            int others = marks & ~fixed[0] & ~fixed[1];
            item[0] = 5 + 16 * (others + ((marks & fixed[0]) != 0 ? fixed[1] : 0)
                    + ((marks & fixed[1]) != 0 ? fixed[0] : 0));
        }
        return kept;
    }

    int insert(int home, int sheet, boolean columns, int at, int n) {
        int way = columns ? 1 : 0;
        requireLines(home, sheet, way, at, n);
        return change(item -> {
            int[] lines = linesOn(item, home, sheet, way);
            int first = lines[0] < at ? lines[0] : lines[0] + n;
            int last = lines[1] < at ? lines[1] : lines[1] + n;
            return first > LAST[way] ? null : withLines(item, way, first, last);
        }, home, sheet, way);
    }

    int delete(int home, int sheet, boolean columns, int at, int n) {
        int way = columns ? 1 : 0;
        requireLines(home, sheet, way, at, n);
        int taken = Math.min(n, LAST[way] - at + 1);
        return change(item -> {
            int[] lines = linesOn(item, home, sheet, way);
            // What it has before the lines that are taken out, and behind them.
            int before = Math.max(0, Math.min(lines[1], at - 1) - lines[0] + 1);
            int behind = Math.max(0, lines[1] - Math.max(lines[0], at + taken) + 1);
            if (before + behind == 0) {
                return null;
            }
            int first = before > 0 ? lines[0] : Math.max(lines[0], at + taken) - taken;
            return withLines(item, way, first, first + before + behind - 1);
        }, home, sheet, way);
    }

    private static void requireLines(int home, int sheet, int way, int at, int n) {
        require(in(home, 0, 7) && in(sheet, 0, 7) && in(at, 1, LAST[way]) && in(n, 1, 16384));
    }

    /** As change, but of items on that sheet alone that do not have all lines. */
    private int change(Change change, int home, int sheet, int way) {
        return change(item -> linesOn(item, home, sheet, way) == null ? item : change.of(item));
    }

    private static int[] linesOn(int[] item, int home, int sheet, int way) {
        int on = item[1] == -1 ? home : item[1];
        int[] at = item.length == 6 ? RANGE_LINES[way] : PLACE_LINES[way];
        int first = item[at[0]];
        int last = item[at[1]];
        return on != sheet || first == 1 && last == LAST[way] ? null : new int[] {first, last};
    }

    private static int[] withLines(int[] item, int way, int first, int last) {
        int[] at = item.length == 6 ? RANGE_LINES[way] : PLACE_LINES[way];
        int[] now = item.clone();
        now[at[1]] = Math.min(last, LAST[way]);
        now[at[0]] = first;
        return now;
    }

    int move(int home, int newHome, int sheet, int row, int column) {
        require(in(home, 0, 7) && in(newHome, 0, 7) && in(sheet, 0, 7)
                && in(row, 1, LAST[0] - (cut[3] - cut[1])) && in(column, 1, LAST[1] - (cut[4] - cut[2])));
        int down = row - cut[1];
        int along = column - cut[2];
        int[] target = {sheet, row, column, cut[3] + down, cut[4] + along};
        return change(item -> {
            int on = item[1] == -1 ? home : item[1];
            boolean moves = covers(cut, on, item);
            if (!moves && covers(target, on, item)) {
                return null;
            }
            int[] now = item.clone();
            for (int k = 2; moves && k < item.length; k++) {
                now[k] += k % 2 == 0 ? down : along;
            }
            int then = moves ? sheet : on;
            now[1] = item[1] == -1 && then == newHome ? -1 : then;
            return now;
        });
    }

    private static boolean covers(int[] area, int on, int[] item) {
        boolean covers = area[0] == on;
        for (int k = 2; k < item.length; k++) {
            int low = k % 2 == 0 ? area[1] : area[2];
            int high = k % 2 == 0 ? area[3] : area[4];
            covers &= in(item[k], low, high);
        }
        return covers;
    }

    private int change(Change change) {
        int changed = 0;
        List<int[]> now = new ArrayList<>();
        for (int[] item : items) {
            int[] then = item.length == 1 ? item : change.of(item);
            if (then == null) {
                then = new int[] {LOST};
            }
            changed += java.util.Arrays.equals(item, then) ? 0 : 1;
            now.add(then);
        }
        items = now;
        return changed;
    }

    private boolean add(int... item) {
        return size() + item.length <= 1000 && items.add(item);
    }

    private static boolean in(int x, int low, int high) {
        return x >= low && x <= high;
    }

    private static void require(boolean good) {
        if (!good) {
            throw new IllegalArgumentException();
        }
    }
}
