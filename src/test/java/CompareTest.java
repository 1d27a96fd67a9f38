/** Promise 10: compare. */
public final class CompareTest {
    public static void main(String[] args) {
        orders();
        ends();
        farNumbers();
        emptyText();
        Check.finish();
    }

    private static void orders() {
        CharDesk desk = Check.readingCharacters('a', 'b', 'c', 'a', 'b', 'd');
        Check.due("like", desk.compare(0, 3, 2), 0);
        Check.due("before by the third", desk.compare(0, 3, 3), -1);
        Check.due("behind by the third", desk.compare(3, 0, 3), 1);
        Check.due("the first that differs decides", desk.compare(1, 0, 3), 1);
        Check.due("the first that differs decides", desk.compare(0, 1, 3), -1);
        Check.due("itself", desk.compare(2, 2, 4), 0);
        Check.due("none", desk.compare(0, 5, 0), 0);
        // Numbers are compared, not the halves that Java's texts would hold.
        CharDesk wide = Check.readingCharacters(0xFFFD, 0x10000, 0x10FFFF);
        Check.due("FFFD, 10000", wide.compare(0, 1, 1), -1);
        Check.due("10FFFF, FFFD", wide.compare(2, 0, 1), 1);
    }

    private static void ends() {
        CharDesk desk = Check.readingCharacters('a', 'b', 'a');
        Check.due("compare(0, 2, 1)", desk.compare(0, 2, 1), 0);
        Check.due("compare(0, 2, 2)", desk.compare(0, 2, 2), -2);
        Check.due("compare(2, 0, 2)", desk.compare(2, 0, 2), -2);
        Check.due("compare(0, 0, 3)", desk.compare(0, 0, 3), 0);
        Check.due("compare(0, 0, 4)", desk.compare(0, 0, 4), -2);
        Check.due("compare(3, 3, 0)", desk.compare(3, 3, 0), 0);
        Check.due("compare(0, 3, 0)", desk.compare(0, 3, 0), 0);
        Check.due("compare(3, 0, 1)", desk.compare(3, 0, 1), -2);
        Check.due("compare(4, 0, 0)", desk.compare(4, 0, 0), -2);
        Check.due("compare(0, 4, 0)", desk.compare(0, 4, 0), -2);
        Check.due("compare(-1, 0, 0)", desk.compare(-1, 0, 0), -2);
        Check.due("compare(0, -1, 0)", desk.compare(0, -1, 0), -2);
        Check.due("compare(-1, 0, 1)", desk.compare(-1, 0, 1), -2);
        Check.due("compare(0, -1, 1)", desk.compare(0, -1, 1), -2);
        Check.due("compare(0, 0, -1)", desk.compare(0, 0, -1), -2);
    }

    private static void farNumbers() {
        CharDesk desk = Check.readingCharacters('a', 'b');
        int most = Integer.MAX_VALUE;
        int least = Integer.MIN_VALUE;
        int[][] rows = {
            {0, 0, most}, {most, 0, 0}, {0, most, 0}, {most, most, most}, {most, 0, 1}, {1, most, 1},
            {1, 1, most}, {least, 0, 0}, {0, least, 0}, {least, least, least}, {0, 0, least}, {1, 1, least},
            {most, most, least}, {least, least, most}
        };
        for (int[] row : rows) {
            Check.due("compare(" + row[0] + ", " + row[1] + ", " + row[2] + ")",
                desk.compare(row[0], row[1], row[2]), -2);
        }
    }

    private static void emptyText() {
        CharDesk desk = new CharDesk();
        Check.due("nothing read: compare(0, 0, 0)", desk.compare(0, 0, 0), -2);
        desk.read();
        Check.due("empty text read: compare(0, 0, 0)", desk.compare(0, 0, 0), 0);
        Check.due("empty text read: compare(0, 0, 1)", desk.compare(0, 0, 1), -2);
        Check.due("empty text read: compare(1, 0, 0)", desk.compare(1, 0, 0), -2);
    }
}
