import java.util.regex.Pattern;

/** Promise 8: kind, for every number around UTF-8's and for far ones. */
public final class KindTest {
    private static final String BEGINS = ":_A-Za-z\\x{C0}-\\x{D6}\\x{D8}-\\x{F6}\\x{F8}-\\x{2FF}"
        + "\\x{370}-\\x{37D}\\x{37F}-\\x{1FFF}\\x{200C}\\x{200D}\\x{2070}-\\x{218F}\\x{2C00}-\\x{2FEF}"
        + "\\x{3001}-\\x{D7FF}\\x{F900}-\\x{FDCF}\\x{FDF0}-\\x{FFFD}\\x{10000}-\\x{EFFFF}";
    private static final Pattern NAME_BEGIN = Pattern.compile("[" + BEGINS + "]");
    private static final Pattern NAME_PART =
        Pattern.compile("[" + BEGINS + "\\-.0-9\\x{B7}\\x{300}-\\x{36F}\\x{203F}\\x{2040}]");
    private static final Pattern ALLOWED =
        Pattern.compile("[\\x09\\x0A\\x0D\\x20-\\x{D7FF}\\x{E000}-\\x{FFFD}\\x{10000}-\\x{10FFFF}]");
    private static final Pattern BLANK = Pattern.compile("[\\x20\\x09\\x0D\\x0A]");

    public static void main(String[] args) {
        everyNumber();
        namedNumbers();
        Check.finish();
    }

    private static void everyNumber() {
        CharDesk desk = new CharDesk();
        for (int c = -300; c <= 0x110100; c++) {
            // An object's answers are promised for 512 calls.
            if (c % 500 == 0) {
                desk = new CharDesk();
            }
            Check.due("kind(" + c + ")", desk.kind(c), wanted(c));
        }
    }

    private static int wanted(int c) {
        if (c < 0 || c > 0x10FFFF) {
            return 0;
        }
        String text = new String(Character.toChars(c));
        return (ALLOWED.matcher(text).matches() ? 1 : 0) + (BLANK.matcher(text).matches() ? 2 : 0)
            + (NAME_BEGIN.matcher(text).matches() ? 4 : 0) + (NAME_PART.matcher(text).matches() ? 8 : 0);
    }

    private static void namedNumbers() {
        CharDesk desk = new CharDesk();
        int[][] kinds = {
            {Integer.MIN_VALUE, 0}, {-1, 0}, {0, 0}, {8, 0}, {9, 3}, {0xA, 3}, {0xB, 0}, {0xD, 3}, {20, 0},
            {0x1F, 0}, {0x20, 3}, {'!', 1}, {'-', 9}, {'.', 9}, {'/', 1}, {'0', 9}, {'9', 9}, {':', 13},
            {';', 1}, {'@', 1}, {'A', 13}, {'Z', 13}, {'_', 13}, {'a', 13}, {'z', 13}, {'{', 1}, {0xB7, 9},
            {0xD7, 1}, {0xF7, 1}, {0x300, 9}, {0x36F, 9}, {0x37E, 1}, {0x2000, 1}, {0x203F, 9}, {0x2040, 9},
            {0x3000, 1}, {0xD7FF, 13}, {0xD800, 0}, {0xDFFF, 0}, {0xE000, 1}, {0xFDD0, 1}, {0xFEFF, 13},
            {0xFFFD, 13}, {0xFFFE, 0}, {0xFFFF, 0}, {0x10000, 13}, {0xEFFFF, 13}, {0xF0000, 1},
            {0x10FFFF, 1}, {0x110000, 0}, {Integer.MAX_VALUE, 0}
        };
        for (int[] row : kinds) {
            Check.due("kind(" + row[0] + ")", desk.kind(row[0]), row[1]);
        }
    }
}
