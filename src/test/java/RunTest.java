/** Promise 9: run. */
public final class RunTest {
    private static final int[] KINDS = {0, 1, 2};

    public static void main(String[] args) {
        names();
        tokens();
        blanks();
        beginsAtThatCharacter();
        edgesOfNameBegins();
        edgesOfNameParts();
        edgesOfBlanks();
        longest();
        noSuchKind();
        noSuchCharacter();
        nothingRead();
        shorterTextBehindALongerOne();
        Check.finish();
    }

    private static void names() {
        CharDesk desk = Check.readingCharacters('a', '-', '1', ' ', '1', 'b', 0x300, '<', ':', '_', 0x10000);
        runs(desk, 0, 3, 0, 0, 0, 0, 2, 0, 0, 3, 2, 1);
    }

    private static void tokens() {
        CharDesk desk = Check.readingCharacters('a', '-', '1', ' ', '1', 'b', 0x300, '<', ':', '_', 0x10000);
        runs(desk, 1, 3, 2, 1, 0, 3, 2, 1, 0, 3, 2, 1);
    }

    private static void blanks() {
        CharDesk desk = Check.reading(' ', 9, 0xD, 0xA, 0xD, 'a', 0xA, 0xC2, 0xA0, ' ');
        runs(desk, 2, 4, 3, 2, 1, 0, 1, 0, 1);
        runs(desk, 0, 0, 0, 0, 0, 1, 0, 0, 0);
        runs(desk, 1, 0, 0, 0, 0, 1, 0, 0, 0);
    }

    private static void runs(CharDesk desk, int kind, int... want) {
        for (int i = 0; i < want.length; i++) {
            Check.due("run(" + kind + ", " + i + ")", desk.run(kind, i), want[i]);
        }
        Check.due("run(" + kind + ", behind the last)", desk.run(kind, want.length), 0);
    }

    /** "that begins at character i": a longer one around it does not count, nor one behind it. */
    private static void beginsAtThatCharacter() {
        CharDesk desk = Check.readingCharacters('<', 'a', 'b', '-', 'c', '>');
        runs(desk, 0, 0, 4, 3, 0, 1, 0);
        runs(desk, 1, 0, 4, 3, 2, 1, 0);
        runs(desk, 2, 0, 0, 0, 0, 0, 0);
    }

    private static void edgesOfNameBegins() {
        int[] begins = {':', 'A', 'Z', '_', 'a', 'z', 0xC0, 0xD6, 0xD8, 0xF6, 0xF8, 0x2FF, 0x370, 0x37D, 0x37F, 0x1FFF,
            0x200C, 0x200D, 0x2070, 0x218F, 0x2C00, 0x2FEF, 0x3001, 0xD7FF, 0xF900, 0xFDCF, 0xFDF0, 0xFFFD, 0x10000,
            0xEFFFF};
        for (int c : begins) {
            single(c, 1, 1, 0);
        }
    }

    private static void edgesOfNameParts() {
        int[] parts = {'-', '.', '0', '9', 0xB7, 0x300, 0x36F, 0x203F, 0x2040};
        for (int c : parts) {
            single(c, 0, 1, 0);
        }
        int[] none = {'!', ',', '/', ';', '@', '[', '^', '`', '{', 0x7F, 0xB6, 0xB8, 0xBF, 0xD7, 0xF7, 0x37E, 0x2000,
            0x200B, 0x200E, 0x203E, 0x2041, 0x206F, 0x2190, 0x2BFF, 0x2FF0, 0x3000, 0xE000, 0xF8FF, 0xFDD0, 0xFDEF,
            0xF0000, 0x10FFFF};
        for (int c : none) {
            single(c, 0, 0, 0);
        }
    }

    private static void edgesOfBlanks() {
        for (int c : new int[] {0x9, 0xA, 0xD, 0x20}) {
            single(c, 0, 0, 1);
        }
        for (int c : new int[] {0x21, 0x85, 0xA0, 0x2028, 0x3000}) {
            single(c, 0, 0, 0);
        }
    }

    /** The runs from the second character on, when the first and the third are of no kind. */
    private static void single(int c, int... want) {
        CharDesk desk = Check.readingCharacters('<', c, '<');
        CharDesk behind = Check.readingCharacters('a', c, '<');
        for (int kind : KINDS) {
            Check.due("run(" + kind + ", 1) at " + Integer.toHexString(c), desk.run(kind, 1), want[kind]);
            Check.due("run(" + kind + ", 0) before " + Integer.toHexString(c), desk.run(kind, 0), 0);
        }
        Check.due("name goes on with " + Integer.toHexString(c), behind.run(0, 0), 1 + want[1]);
        Check.due("token goes on with " + Integer.toHexString(c), behind.run(1, 0), 1 + want[1]);
    }

    private static void longest() {
        CharDesk names = new CharDesk();
        Check.fill(names, 1000);
        names.read();
        runsOfFull(names, 1000, 1000, 0);
        CharDesk parts = full(0x2D2D2D2D2D2D2D2DL);
        runsOfFull(parts, 0, 1000, 0);
        CharDesk blanks = full(0x2020202020202020L);
        runsOfFull(blanks, 0, 0, 1000);
        CharDesk none = full(0x2121212121212121L);
        runsOfFull(none, 0, 0, 0);
    }

    private static CharDesk full(long letters) {
        CharDesk desk = new CharDesk();
        for (int k = 0; k < 125; k++) {
            Check.due("put", desk.put(letters, 8), true);
        }
        Check.due("read()", desk.read(), 1000);
        return desk;
    }

    private static void runsOfFull(CharDesk desk, int... want) {
        for (int kind : KINDS) {
            Check.due("run(" + kind + ", 0) of 1000", desk.run(kind, 0), want[kind]);
            Check.due("run(" + kind + ", 1) of 1000", desk.run(kind, 1), Math.max(want[kind] - 1, 0));
            Check.due("run(" + kind + ", 999) of 1000", desk.run(kind, 999), Math.min(want[kind], 1));
            Check.due("run(" + kind + ", 1000) of 1000", desk.run(kind, 1000), 0);
        }
    }

    private static void noSuchKind() {
        CharDesk desk = Check.readingCharacters('a', ' ');
        for (int kind : new int[] {Check.LEAST, -1, 3, 4, 8, 256, 257, 258, 1 << 16, Check.MOST}) {
            Check.due("run(" + kind + ", 0)", desk.run(kind, 0), 0);
            Check.due("run(" + kind + ", 1)", desk.run(kind, 1), 0);
            Check.due("run(" + kind + ", 2)", desk.run(kind, 2), 0);
        }
    }

    private static void noSuchCharacter() {
        CharDesk desk = Check.readingCharacters('a', ' ');
        for (int i : new int[] {Check.LEAST, -1, 2, 3, 256, 999, 1000, 1001, 1 << 16, Check.MOST}) {
            for (int kind : KINDS) {
                Check.due("run(" + kind + ", " + i + ")", desk.run(kind, i), 0);
            }
        }
    }

    private static void nothingRead() {
        CharDesk unread = new CharDesk();
        Check.putBytes(unread, 'a', ' ');
        CharDesk empty = new CharDesk();
        Check.due("empty: read()", empty.read(), 0);
        CharDesk faulty = Check.reading('a', ' ', 0);
        for (int kind : KINDS) {
            Check.due("not read yet: run(" + kind + ", 0)", unread.run(kind, 0), 0);
            Check.due("empty: run(" + kind + ", 0)", empty.run(kind, 0), 0);
            Check.due("a fault: run(" + kind + ", 0)", faulty.run(kind, 0), 0);
            Check.due("a fault: run(" + kind + ", 1)", faulty.run(kind, 1), 0);
        }
    }

    /** What an earlier, longer reading left behind the last character is no part of a run. */
    private static void shorterTextBehindALongerOne() {
        CharDesk desk = Check.readingCharacters('a', 'b', 'c');
        Check.putBytes(desk, 'x');
        Check.due("shorter: read()", desk.read(), 1);
        Check.due("shorter: run(0, 0)", desk.run(0, 0), 1);
        Check.due("shorter: run(1, 0)", desk.run(1, 0), 1);
        Check.due("shorter: run(0, 1)", desk.run(0, 1), 0);
        CharDesk blanks = Check.readingCharacters(' ', ' ', ' ');
        Check.putBytes(blanks, ' ', 9);
        Check.due("shorter: read()", blanks.read(), 2);
        Check.due("shorter: run(2, 0)", blanks.run(2, 0), 2);
    }
}
