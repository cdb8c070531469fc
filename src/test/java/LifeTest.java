/** "An object is used for at most 512 calls": each of them answers as due, the last one too. */
public final class LifeTest {
    private static final int CALLS = 512;
    private static final int NONE = Check.NONE;

    public static void main(String[] args) {
        others();
        places();
        ranges();
        words();
        clears();
        copies();
        linesPutIn();
        linesTakenOut();
        rectangles();
        moves();
        refusedCalls();
        Check.end();
    }

    private static void others() {
        ReferenceMover mover = new ReferenceMover();
        for (int i = 1; i < CALLS; i++) {
            Check.yes("other, call " + i, mover.other(-i));
        }
        Check.due("size, the last call", mover.size(), CALLS - 1);
        mover = new ReferenceMover();
        for (int i = 1; i < CALLS; i++) {
            mover.other(-i);
        }
        Check.due("word, the last call", mover.word(CALLS - 2), 1 - CALLS);
    }

    private static void places() {
        ReferenceMover mover = new ReferenceMover();
        for (int i = 1; i < CALLS; i++) {
            Check.due("place, call " + i, mover.place(0, NONE, i, 1) ? 1 : 0, i <= 250 ? 1 : 0);
        }
        Check.due("word, the last call", mover.word(998), 250);
    }

    private static void ranges() {
        ReferenceMover mover = new ReferenceMover();
        for (int i = 1; i < CALLS; i++) {
            Check.due("range, call " + i, mover.range(0, NONE, 1, 1, i, 1) ? 1 : 0, i <= 166 ? 1 : 0);
        }
        Check.due("size, the last call", mover.size(), 996);
    }

    private static void words() {
        ReferenceMover mover = Check.withPlace(0, 7, 8, 9);
        for (int i = 2; i <= CALLS; i++) {
            Check.due("word, call " + i, mover.word(i % 4), new int[] {4, 7, 8, 9}[i % 4]);
        }
    }

    private static void clears() {
        ReferenceMover mover = new ReferenceMover();
        for (int i = 4; i <= CALLS; i += 4) {
            Check.yes("range after clear", mover.range(0, NONE, 1, 1, 1, i));
            Check.due("word after clear", mover.word(5), i);
            mover.clear();
            Check.due("size after clear", mover.size(), 0);
        }
    }

    private static void copies() {
        ReferenceMover mover = Check.withPlace(0, NONE, 1, 1);
        for (int i = 2; i < CALLS; i++) {
            Check.due("copy, call " + i, mover.copy(1, 0), 1);
        }
        Check.due("row, the last call", mover.word(2), CALLS - 1);
        mover = Check.withRange(0, NONE, 1, 1, 1, CALLS);
        for (int i = 2; i <= CALLS; i++) {
            Check.due("copy, call " + i, mover.copy(0, i % 2 == 0 ? 1 : -1), 1);
        }
    }

    private static void linesPutIn() {
        ReferenceMover mover = Check.withRange(0, NONE, 1, 1, 1, 1);
        for (int i = 2; i < CALLS; i++) {
            Check.due("insert, call " + i, mover.insert(0, 0, true, 1, 1), 1);
        }
        Check.due("right column, the last call", mover.word(5), CALLS - 1);
    }

    private static void linesTakenOut() {
        ReferenceMover mover = Check.withRange(0, NONE, 1, 1, CALLS, 1);
        for (int i = 2; i < CALLS; i++) {
            Check.due("delete, call " + i, mover.delete(0, 0, false, 1, 1), 1);
        }
        Check.due("lower row, the last call", mover.word(4), 2);
    }

    private static void rectangles() {
        ReferenceMover mover = Check.withPlace(0, 0, CALLS - 1, 1);
        for (int i = 2; i < CALLS; i++) {
            Check.yes("rectangle, call " + i, mover.rectangle(0, i, 1, i, 1));
        }
        Check.due("move, the last call", mover.move(0, 0, 0, 9, 9), 1);
    }

    private static void moves() {
        ReferenceMover mover = Check.withPlace(0, 0, 1, 1);
        for (int i = 3; i < CALLS; i += 2) {
            Check.due("move, call " + i, mover.move(0, 0, 0, i, 1), 1);
            Check.yes("rectangle", mover.rectangle(0, i, 1, i, 1));
        }
        Check.due("move, the last call", mover.move(0, 0, 0, 1, 1), 1);
    }

    private static void refusedCalls() {
        ReferenceMover mover = Check.withPlace(0, 0, 5, 6);
        int calls = 1;
        while (calls + 8 < CALLS) {
            Check.no("other", mover.other(4));
            Check.no("place", mover.place(4, 0, 1, 1));
            Check.no("range", mover.range(48, 0, 1, 1, 1, 1));
            Check.no("rectangle", mover.rectangle(8, 1, 1, 1, 1));
            calls += 4;
        }
        Check.code("after refused calls", mover, 4, 0, 5, 6);
    }
}
