/** Promise 10: compare. */
public final class CompareTest {
    public static void main(String[] args) {
        orders();
        numbersAreCompared();
        noCharacters();
        asManyAsThereAre();
        notAsMany();
        notAsManyThoughTheyDiffer();
        belowZero();
        farNumbers();
        nothingRead();
        emptyText();
        fullText();
        shorterTextBehindALongerOne();
        Check.finish();
    }

    private static void compare(CharDesk desk, int i, int j, int n, int want) {
        Check.due("compare(" + i + ", " + j + ", " + n + ")", desk.compare(i, j, n), want);
    }

    /** "by the first that differ" */
    private static void orders() {
        CharDesk desk = Check.readingCharacters('a', 'b', 'c', 'a', 'b', 'd');
        compare(desk, 0, 3, 2, 0);
        compare(desk, 0, 3, 3, -1);
        compare(desk, 3, 0, 3, 1);
        compare(desk, 1, 0, 3, 1);
        compare(desk, 0, 1, 3, -1);
        compare(desk, 2, 2, 4, 0);
        CharDesk turned = Check.readingCharacters('a', 'z', 'b', 'a');
        Check.due("a later one does not turn it", turned.compare(0, 2, 2), -1);
        Check.due("a later one does not turn it", turned.compare(2, 0, 2), 1);
    }

    /** Numbers are compared, not the halves that Java's texts would hold. */
    private static void numbersAreCompared() {
        CharDesk desk = Check.readingCharacters(0xFFFD, 0x10000, 0x10FFFF, 0x9, 0x7F, 0x80);
        compare(desk, 0, 1, 1, -1);
        compare(desk, 2, 0, 1, 1);
        compare(desk, 1, 2, 1, -1);
        compare(desk, 3, 2, 1, -1);
        compare(desk, 2, 3, 1, 1);
        compare(desk, 4, 5, 1, -1);
        // What was read counts: D is A there.
        CharDesk lines = Check.reading(0xD, 0x61, 0xA, 0x61, 0xD, 0xA, 0x61);
        compare(lines, 0, 2, 2, 0);
        compare(lines, 2, 4, 2, 0);
    }

    private static void noCharacters() {
        CharDesk desk = Check.readingCharacters('a', 'b', 'a');
        for (int i = 0; i <= 3; i++) {
            for (int j = 0; j <= 3; j++) {
                compare(desk, i, j, 0, 0);
            }
        }
    }

    private static void asManyAsThereAre() {
        CharDesk desk = Check.readingCharacters('a', 'b', 'a');
        compare(desk, 0, 0, 3, 0);
        compare(desk, 0, 2, 1, 0);
        compare(desk, 2, 0, 1, 0);
        compare(desk, 0, 1, 2, -1);
        compare(desk, 1, 0, 2, 1);
    }

    /** "-2 if there are not as many" */
    private static void notAsMany() {
        CharDesk desk = Check.readingCharacters('a', 'b', 'a');
        compare(desk, 0, 0, 4, -2);
        compare(desk, 0, 2, 2, -2);
        compare(desk, 2, 0, 2, -2);
        compare(desk, 3, 0, 1, -2);
        compare(desk, 0, 3, 1, -2);
        compare(desk, 3, 3, 1, -2);
        compare(desk, 4, 0, 0, -2);
        compare(desk, 0, 4, 0, -2);
        compare(desk, 4, 4, 0, -2);
        compare(desk, -1, 0, 0, -2);
        compare(desk, 0, -1, 0, -2);
        compare(desk, -1, -1, 0, -2);
        compare(desk, -1, 0, 1, -2);
        compare(desk, 0, -1, 1, -2);
        compare(desk, -1, 0, 2, -2);
    }

    /** The first that differ don't decide where there are not as many. */
    private static void notAsManyThoughTheyDiffer() {
        CharDesk desk = Check.readingCharacters('a', 'b', 'c');
        compare(desk, 0, 2, 2, -2);
        compare(desk, 2, 0, 2, -2);
        compare(desk, 0, 1, 3, -2);
        compare(desk, 1, 0, 3, -2);
    }

    /** "or n is below 0" */
    private static void belowZero() {
        CharDesk desk = Check.readingCharacters('a', 'b', 'a');
        for (int n : new int[] {-1, -2, -3, -1000, Check.LEAST + 1, Check.LEAST}) {
            compare(desk, 0, 0, n, -2);
            compare(desk, 0, 1, n, -2);
            compare(desk, 3, 3, n, -2);
            compare(desk, 4, 4, n, -2);
        }
        compare(new CharDesk(), 0, 0, -1, -2);
    }

    /** Sums that wrap round to what would be there. */
    private static void farNumbers() {
        CharDesk desk = Check.readingCharacters('a', 'b');
        int most = Check.MOST;
        int least = Check.LEAST;
        int[][] rows = {
            {0, 0, most}, {most, 0, 0}, {0, most, 0}, {most, most, most}, {most, 0, 1}, {1, most, 1}, {1, 1, most},
            {2, 2, most}, {most, most, 1}, {most, most, 2}, {most - 1, most - 1, 3}, {least, 0, 0}, {0, least, 0},
            {least, least, 0}, {least, least, least}, {0, 0, least}, {1, 1, least}, {2, 2, least}, {most, most, least},
            {least, least, most}, {least, 0, 1}, {0, least, 1}, {least + 1, least + 1, most}, {0, 1, 1 << 16},
            {256, 256, 0}, {1 << 16, 1 << 16, 0}
        };
        for (int[] row : rows) {
            compare(desk, row[0], row[1], row[2], -2);
        }
    }

    /** "none when nothing is read, also for n = 0" */
    private static void nothingRead() {
        compare(new CharDesk(), 0, 0, 0, -2);
        compare(new CharDesk(), 0, 0, 1, -2);
        CharDesk unread = new CharDesk();
        Check.putBytes(unread, 'a', 'b');
        compare(unread, 0, 0, 0, -2);
        compare(unread, 0, 1, 1, -2);
        for (int b : new int[] {0x0, 0xFF}) {
            CharDesk faulty = Check.readingCharacters('a', 'b');
            Check.putBytes(faulty, 'a', 'b', b);
            faulty.read();
            compare(faulty, 0, 0, 0, -2);
            compare(faulty, 0, 1, 1, -2);
        }
    }

    private static void emptyText() {
        CharDesk empty = new CharDesk();
        Check.due("empty text: read()", empty.read(), 0);
        CharDesk marked = Check.reading(0xEF, 0xBB, 0xBF);
        for (CharDesk desk : new CharDesk[] {empty, marked}) {
            compare(desk, 0, 0, 0, 0);
            compare(desk, 0, 0, 1, -2);
            compare(desk, 1, 0, 0, -2);
            compare(desk, 0, 1, 0, -2);
        }
    }

    private static void fullText() {
        CharDesk desk = new CharDesk();
        Check.fill(desk, 999);
        Check.putBytes(desk, 'b');
        Check.due("full: read()", desk.read(), 1000);
        compare(desk, 0, 0, 1000, 0);
        compare(desk, 0, 0, 1001, -2);
        compare(desk, 0, 1, 999, -1);
        compare(desk, 1, 0, 999, 1);
        compare(desk, 0, 1, 998, 0);
        compare(desk, 0, 1, 1000, -2);
        compare(desk, 999, 0, 1, 1);
        compare(desk, 1000, 0, 0, 0);
        compare(desk, 1000, 1000, 0, 0);
        compare(desk, 1001, 0, 0, -2);
        compare(desk, 1000, 0, 1, -2);
    }

    private static void shorterTextBehindALongerOne() {
        CharDesk desk = Check.readingCharacters('a', 'b', 'a', 'b');
        Check.putBytes(desk, 'a', 'b');
        Check.due("shorter: read()", desk.read(), 2);
        compare(desk, 0, 2, 2, -2);
        compare(desk, 0, 0, 3, -2);
        compare(desk, 2, 2, 0, 0);
        compare(desk, 3, 3, 0, -2);
    }
}
