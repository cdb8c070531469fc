/** The example of README.md: whoever changes the one changes the other. */
public final class ReadmeTest {
    public static void main(String[] args) {
        ReferenceMover mover = new ReferenceMover();
        Check.yes("place", mover.place(0, ReferenceMover.NONE, 5, 3));
        Check.yes("range", mover.range(5, 1, 2, 2, 8, 4));
        Check.yes("other", mover.other(6));
        Check.due("copy", mover.copy(2, -1), 2);
        Check.code("copy", mover, 4, -1, 7, 2, 85, 1, 4, 2, 10, 4, 6);
        Check.due("insert", mover.insert(0, 1, false, 5, 3), 1);
        Check.code("insert", mover, 4, -1, 7, 2, 85, 1, 4, 2, 13, 4, 6);
        Check.due("delete", mover.delete(0, 0, true, 2, 1), 1);
        Check.code("delete", mover, 67, 85, 1, 4, 2, 13, 4, 6);
        Check.yes("rectangle", mover.rectangle(1, 1, 1, 20, 10));
        Check.due("move", mover.move(0, 0, 2, 1, 1), 1);
        Check.code("move", mover, 67, 85, 2, 4, 2, 13, 4, 6);
        Check.end();
    }
}
