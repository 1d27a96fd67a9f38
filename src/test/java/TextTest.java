/** Promises 1 to 3: a new object, put and character. */
public final class TextTest {
    public static void main(String[] args) {
        newObject();
        putTakesTheLowestBytes();
        putRefusesWrongCounts();
        putKeepsTheLimit();
        characterWritesUtf8();
        characterRefusesWhatIsNone();
        characterKeepsTheLimit();
        newBytesLeaveTheReading();
        Check.finish();
    }

    private static void newObject() {
        CharDesk desk = new CharDesk();
        Check.nothingRead("new", desk);
        Check.due("new: place()", desk.place(), -1);
        Check.due("new: read()", desk.read(), 0);
        Check.due("new: placeOf(0) of the empty text", desk.placeOf(0), 0);
    }

    private static void putTakesTheLowestBytes() {
        for (int n = 1; n <= 8; n++) {
            CharDesk desk = new CharDesk();
            Check.due("put(.., " + n + ")", desk.put(0x4142434445464748L, n), true);
            Check.due("read() of " + n, desk.read(), n);
            for (int i = 0; i < n; i++) {
                Check.due("at(" + i + ") of " + n, desk.at(i), 0x41 + 8 - n + i);
            }
        }
        CharDesk desk = new CharDesk();
        desk.put(0x6162L, 2);
        desk.put(0xFFFFFFFFFFFFFF63L, 1);
        desk.put(-1L << 8 | 0x64, 1);
        Check.due("read() of two puts", desk.read(), 4);
        Check.characters("puts in a row", desk, 0x61, 0x62, 0x63, 0x64);

        CharDesk high = new CharDesk();
        high.put(0xF09F9880C3A9E282L, 8);
        high.put(0xACL, 1);
        Check.due("read() of high bytes", high.read(), 3);
        Check.characters("high bytes", high, 0x1F600, 0xE9, 0x20AC);
    }

    private static void putRefusesWrongCounts() {
        CharDesk desk = new CharDesk();
        for (int n : new int[] {Integer.MIN_VALUE, -8, -1, 0, 9, 10, 64, Integer.MAX_VALUE}) {
            Check.due("put(65, " + n + ")", desk.put(65L, n), false);
        }
        Check.due("read() behind refused puts", desk.read(), 0);
    }

    private static void putKeepsTheLimit() {
        CharDesk desk = new CharDesk();
        Check.fill(desk, 997);
        Check.due("put of 4 behind 997", desk.put(0x62626262L, 4), false);
        Check.due("put of 8 behind 997", desk.put(0x62626262L, 8), false);
        Check.due("put of 3 behind 997", desk.put(0x636465L, 3), true);
        Check.due("put of 1 behind 1000", desk.put(0x66L, 1), false);
        Check.due("read() of 1000", desk.read(), 1000);
        Check.due("at(996)", desk.at(996), 0x61);
        Check.due("at(997)", desk.at(997), 0x63);
        Check.due("at(999)", desk.at(999), 0x65);
        Check.due("at(1000)", desk.at(1000), -1);
        Check.due("placeOf(1000)", desk.placeOf(1000), 1000);
        Check.due("placeOf(1001)", desk.placeOf(1001), -1);
        Check.due("run over all", desk.run(1, 0), 1000);
        Check.due("compare over all", desk.compare(0, 0, 1000), 0);
        Check.fill(desk, 1000);
        Check.due("read() of 1000 more", desk.read(), 1000);
    }

    private static void characterWritesUtf8() {
        int[] edges = {0x9, 0x20, 0x7F, 0x80, 0x7FF, 0x800, 0xD7FF, 0xE000, 0xFFFD, 0x10000, 0x10FFFF};
        CharDesk desk = Check.readingCharacters(edges);
        Check.characters("edges", desk, edges);
        Check.places("edges", desk, 0, 1, 2, 3, 5, 7, 10, 13, 16, 19, 23, 27);
    }

    private static void characterRefusesWhatIsNone() {
        CharDesk desk = new CharDesk();
        int[] none = {-1, Integer.MIN_VALUE, 0xD800, 0xDBFF, 0xDC00, 0xDFFF, 0x110000, Integer.MAX_VALUE};
        for (int c : none) {
            Check.due("character(" + c + ")", desk.character(c), false);
        }
        Check.due("read() behind refused characters", desk.read(), 0);
        // What UTF-8 has is taken, though reading then finds it not allowed.
        for (int c : new int[] {0, 8, 0x1F, 0xFFFE, 0xFFFF}) {
            Check.due("character(" + c + ")", desk.character(c), true);
            Check.due("read() of " + c, desk.read(), -3);
        }
    }

    private static void characterKeepsTheLimit() {
        CharDesk desk = new CharDesk();
        Check.fill(desk, 997);
        Check.due("character of 4 bytes behind 997", desk.character(0x10000), false);
        Check.due("character of 3 bytes behind 997", desk.character(0x20AC), true);
        Check.due("character of 1 byte behind 1000", desk.character(0x61), false);
        Check.due("read()", desk.read(), 998);
        Check.due("at(997)", desk.at(997), 0x20AC);
        Check.due("placeOf(998)", desk.placeOf(998), 1000);
        Check.fill(desk, 999);
        Check.due("character of 2 bytes behind 999", desk.character(0xE9), false);
        Check.due("character of 1 byte behind 999", desk.character(0x62), true);
        Check.due("read()", desk.read(), 1000);
        Check.due("at(999)", desk.at(999), 0x62);
    }

    private static void newBytesLeaveTheReading() {
        CharDesk desk = Check.readingCharacters(0x61, 0x62);
        desk.put(0x7879L, 2);
        desk.character(0x7A);
        Check.characters("reading before the next read()", desk, 0x61, 0x62);
        Check.places("reading before the next read()", desk, 0, 1, 2);
        Check.due("read() of the new text alone", desk.read(), 3);
        Check.characters("the new text", desk, 0x78, 0x79, 0x7A);
    }
}
