/** Promises 1 to 3: a new object, put and character. */
public final class TextTest {
    // What n bytes of the letter b are, for n from 1 to 8.
    private static final long LETTERS = 0x6262626262626262L;

    public static void main(String[] args) {
        newObjectHasNothingRead();
        newObjectHasNoText();
        newObjectsAreApart();
        putTakesTheLowestBytes();
        putTakesBytesOfEveryValue();
        putRefusesWrongCounts();
        putFillsUpToTheLimit();
        putRefusesMoreThanTheLimit();
        characterWritesUtf8();
        characterRefusesWhatIsNone();
        characterTakesWhatIsNotAllowed();
        characterFillsUpToTheLimit();
        characterRefusesMoreThanTheLimit();
        limitCountsTheUnreadTextAlone();
        newBytesLeaveTheReading();
        Check.finish();
    }

    private static void newObjectHasNothingRead() {
        CharDesk desk = new CharDesk();
        Check.nothingRead("new", desk);
        Check.due("new: place()", desk.place(), -1);
    }

    private static void newObjectHasNoText() {
        CharDesk desk = new CharDesk();
        Check.due("new: read()", desk.read(), 0);
        Check.due("new: placeOf(0) of the empty text", desk.placeOf(0), 0);
        Check.due("new: place() of the empty text", desk.place(), -1);
    }

    private static void newObjectsAreApart() {
        CharDesk left = Check.readingCharacters('a');
        left.put('b', 1);
        CharDesk right = new CharDesk();
        Check.nothingRead("a second object", right);
        right.put('c', 1);
        Check.due("right: read()", right.read(), 1);
        Check.due("left: at(0)", left.at(0), 'a');
        Check.due("left: read()", left.read(), 1);
        Check.due("left: at(0)", left.at(0), 'b');
        Check.due("right: at(0)", right.at(0), 'c');
    }

    private static void putTakesTheLowestBytes() {
        for (int n = 1; n <= 8; n++) {
            CharDesk desk = new CharDesk();
            Check.due("put(.., " + n + ")", desk.put(0x4142434445464748L, n), true);
            Check.due("read() of " + n, desk.read(), n);
            for (int i = 0; i < n; i++) {
                Check.due("at(" + i + ") of " + n, desk.at(i), 0x41 + 8 - n + i);
            }
            Check.due("placeOf(n) of " + n, desk.placeOf(n), n);
        }
        CharDesk desk = new CharDesk();
        desk.put(0x6162L, 2);
        desk.put(0xFFFFFFFFFFFFFF63L, 1);
        desk.put(-1L << 8 | 0x64, 1);
        Check.due("read() of two puts", desk.read(), 4);
        Check.characters("puts in a row", desk, 0x61, 0x62, 0x63, 0x64);
    }

    private static void putTakesBytesOfEveryValue() {
        CharDesk high = new CharDesk();
        high.put(0xF09F9880C3A9E282L, 8);
        high.put(0xACL, 1);
        Check.due("read() of high bytes", high.read(), 3);
        Check.characters("high bytes", high, 0x1F600, 0xE9, 0x20AC);
        CharDesk least = new CharDesk();
        Check.due("put(least, 8)", least.put(Long.MIN_VALUE, 8), true);
        Check.due("read() of 80 00 ..", least.read(), -2);
        Check.due("put(least, 7)", least.put(Long.MIN_VALUE, 7), true);
        Check.due("read() of 00 ..", least.read(), -3);
        Check.due("put(most, 1)", least.put(Long.MAX_VALUE, 1), true);
        Check.due("read() of FF", least.read(), -2);
        Check.due("put(-1, 8)", least.put(-1L, 8), true);
        Check.due("read() of FF ..", least.read(), -2);
        // Leading bytes that are 0 are bytes too.
        Check.due("put(61, 2)", least.put(0x61L, 2), true);
        Check.due("read() of 00 61", least.read(), -3);
    }

    private static void putRefusesWrongCounts() {
        CharDesk desk = new CharDesk();
        // The far ones are 1 to 8 but for bits that a byte or a shift would lose.
        int[] wrong = {Check.LEAST, Check.LEAST + 1, -8, -1, 0, 9, 10, 64, 65, 257, 1 << 16 | 1, Check.MOST};
        for (int n : wrong) {
            Check.due("put(65, " + n + ")", desk.put(65L, n), false);
        }
        Check.due("read() behind refused puts", desk.read(), 0);
        Check.due("placeOf(0) behind refused puts", desk.placeOf(0), 0);
    }

    private static void putFillsUpToTheLimit() {
        for (int n = 1; n <= 8; n++) {
            CharDesk desk = new CharDesk();
            Check.fill(desk, 1000 - n);
            Check.due("put of the last " + n, desk.put(LETTERS, n), true);
            Check.due("read() of 1000", desk.read(), 1000);
            Check.due("at before the last put", desk.at(999 - n), 'a');
            Check.due("at the last put", desk.at(1000 - n), 'b');
            Check.due("at(999)", desk.at(999), 'b');
            Check.due("at(1000)", desk.at(1000), -1);
            Check.due("placeOf(1000)", desk.placeOf(1000), 1000);
            Check.due("placeOf(1001)", desk.placeOf(1001), -1);
        }
    }

    private static void putRefusesMoreThanTheLimit() {
        for (int n = 1; n <= 8; n++) {
            CharDesk desk = new CharDesk();
            Check.fill(desk, 1001 - n);
            Check.due("put of one too many by " + n, desk.put(LETTERS, n), false);
            // Nothing of it came, so what still has room comes right behind the letters a.
            for (int left = n - 1; left > 0; left--) {
                Check.due("put of what has room", desk.put('c', 1), true);
            }
            Check.due("put behind 1000", desk.put('d', 1), false);
            Check.due("read()", desk.read(), 1000);
            Check.due("at before what had room", desk.at(1000 - n), 'a');
            Check.due("at(999)", desk.at(999), n == 1 ? 'a' : 'c');
        }
    }

    private static void characterWritesUtf8() {
        int[] edges = {0x9, 0x20, 0x7F, 0x80, 0x7FF, 0x800, 0xD7FF, 0xE000, 0xFFFD, 0x10000, 0x10FFFF};
        CharDesk desk = Check.readingCharacters(edges);
        Check.characters("edges", desk, edges);
        Check.places("edges", desk, 0, 1, 2, 3, 5, 7, 10, 13, 16, 19, 23, 27);
    }

    private static void characterRefusesWhatIsNone() {
        CharDesk desk = new CharDesk();
        for (int c : new int[] {0xD800, 0xDBFF, 0xDC00, 0xDFFF}) {
            Check.due("character(" + c + ")", desk.character(c), false);
        }
        for (int c : Check.beyondCharacters()) {
            Check.due("character(" + c + ")", desk.character(c), false);
        }
        Check.due("read() behind refused characters", desk.read(), 0);
        Check.due("placeOf(0) behind refused characters", desk.placeOf(0), 0);
    }

    /** What UTF-8 has is taken, though reading then finds it not allowed. */
    private static void characterTakesWhatIsNotAllowed() {
        CharDesk desk = new CharDesk();
        for (int c : new int[] {0, 8, 0xB, 0xC, 0xE, 0x1F, 0xFFFE, 0xFFFF}) {
            Check.due("character(" + c + ")", desk.character(c), true);
            Check.due("read() of " + c, desk.read(), -3);
        }
    }

    private static void characterFillsUpToTheLimit() {
        int[] widest = {0x7F, 0x7FF, 0xFFFD, 0x10FFFF};
        for (int width = 1; width <= 4; width++) {
            CharDesk desk = new CharDesk();
            Check.fill(desk, 1000 - width);
            Check.due("character of the last " + width, desk.character(widest[width - 1]), true);
            Check.due("read()", desk.read(), 1001 - width);
            Check.due("at(last)", desk.at(1000 - width), widest[width - 1]);
            Check.due("placeOf(last)", desk.placeOf(1000 - width), 1000 - width);
            Check.due("placeOf(count)", desk.placeOf(1001 - width), 1000);
        }
        CharDesk wide = new CharDesk();
        for (int k = 0; k < 250; k++) {
            Check.due("character(10FFFF)", wide.character(0x10FFFF), true);
        }
        Check.due("character behind 250 of four bytes", wide.character('a'), false);
        Check.due("read() of 250 of four bytes", wide.read(), 250);
        Check.due("at(249)", wide.at(249), 0x10FFFF);
        Check.due("placeOf(249)", wide.placeOf(249), 996);
        Check.due("placeOf(250)", wide.placeOf(250), 1000);
        Check.due("placeOf(251)", wide.placeOf(251), -1);
    }

    private static void characterRefusesMoreThanTheLimit() {
        int[] least = {0x20, 0x80, 0x800, 0x10000};
        for (int width = 1; width <= 4; width++) {
            CharDesk desk = new CharDesk();
            Check.fill(desk, 1001 - width);
            Check.due("character of one too many by " + width, desk.character(least[width - 1]), false);
            for (int left = width - 1; left > 0; left--) {
                Check.due("character that has room", desk.character('c'), true);
            }
            Check.due("character behind 1000", desk.character('d'), false);
            Check.due("read()", desk.read(), 1000);
            Check.due("at before what had room", desk.at(1000 - width), 'a');
            Check.due("at(999)", desk.at(999), width == 1 ? 'a' : 'c');
        }
    }

    /** What was read is no part of the text any more, with a fault or without one. */
    private static void limitCountsTheUnreadTextAlone() {
        CharDesk desk = new CharDesk();
        Check.fill(desk, 1000);
        Check.due("full: read()", desk.read(), 1000);
        Check.fill(desk, 999);
        Check.due("put of the last", desk.put(0xFFL, 1), true);
        Check.due("put behind 1000", desk.put(0x61L, 1), false);
        Check.due("full, with a fault: read()", desk.read(), -2);
        Check.due("full, with a fault: place()", desk.place(), 999);
        Check.fill(desk, 1000);
        Check.due("character behind 1000", desk.character(0x61), false);
        Check.due("full again: read()", desk.read(), 1000);
    }

    private static void newBytesLeaveTheReading() {
        CharDesk desk = Check.readingCharacters(0x61, 0x62);
        desk.put(0x7879L, 2);
        desk.character(0x7A);
        Check.characters("reading before the next read()", desk, 0x61, 0x62);
        Check.places("reading before the next read()", desk, 0, 1, 2);
        Check.due("read() of the new text alone", desk.read(), 3);
        Check.characters("the new text", desk, 0x78, 0x79, 0x7A);
    }
}
