/** Promise 8: kind, and the terms ALLOWED, BLANKS, NAME BEGINS and NAME PARTS, edge by edge. */
public final class KindTest {
    public static void main(String[] args) {
        allowed();
        blanks();
        nameBegins();
        nameParts();
        sums();
        zeroOtherwise();
        everyNumber();
        Check.finish();
    }

    private static void allowed() {
        ranges("allowed", 1, 0x9, 0xA, 0xD, 0xD, 0x20, 0xD7FF, 0xE000, 0xFFFD, 0x10000, 0x10FFFF);
    }

    private static void blanks() {
        ranges("blank", 2, 0x9, 0xA, 0xD, 0xD, 0x20, 0x20);
    }

    private static void nameBegins() {
        ranges("name begin", 4, ':', ':', 'A', 'Z', '_', '_', 'a', 'z', 0xC0, 0xD6, 0xD8, 0xF6, 0xF8, 0x2FF,
            0x370, 0x37D, 0x37F, 0x1FFF, 0x200C, 0x200D, 0x2070, 0x218F, 0x2C00, 0x2FEF, 0x3001, 0xD7FF,
            0xF900, 0xFDCF, 0xFDF0, 0xFFFD, 0x10000, 0xEFFFF);
    }

    private static void nameParts() {
        // Where a name begin stands next to a further name part, their ranges are one here.
        ranges("name part", 8, '-', '.', '0', ':', 'A', 'Z', '_', '_', 'a', 'z', 0xB7, 0xB7, 0xC0, 0xD6,
            0xD8, 0xF6, 0xF8, 0x37D, 0x37F, 0x1FFF, 0x200C, 0x200D, 0x203F, 0x2040, 0x2070, 0x218F,
            0x2C00, 0x2FEF, 0x3001, 0xD7FF, 0xF900, 0xFDCF, 0xFDF0, 0xFFFD, 0x10000, 0xEFFFF);
    }

    /** Pairs of a range's first number and its last one; the numbers beside each range are outside. */
    private static void ranges(String what, int bit, int... pairs) {
        CharDesk desk = new CharDesk();
        for (int k = 0; k < pairs.length; k += 2) {
            hasBit(what, desk, bit, pairs[k] - 1, false);
            hasBit(what, desk, bit, pairs[k], true);
            hasBit(what, desk, bit, pairs[k + 1], true);
            hasBit(what, desk, bit, pairs[k + 1] + 1, false);
        }
    }

    private static void hasBit(String what, CharDesk desk, int bit, int c, boolean want) {
        Check.due(what + ": kind(" + Integer.toHexString(c) + ")", (desk.kind(c) & bit) != 0, want);
    }

    private static void sums() {
        CharDesk desk = new CharDesk();
        int[][] kinds = {
            {9, 3}, {0xA, 3}, {0xD, 3}, {0x20, 3}, {'!', 1}, {'-', 9}, {'.', 9}, {'/', 1}, {'0', 9}, {'9', 9},
            {':', 13}, {';', 1}, {'A', 13}, {'_', 13}, {'z', 13}, {0xB7, 9}, {0xD7, 1}, {0x300, 9},
            {0x37E, 1}, {0x2000, 1}, {0x203F, 9}, {0xD7FF, 13}, {0xE000, 1}, {0xFDD0, 1}, {0xFEFF, 13},
            {0xFFFD, 13}, {0x10000, 13}, {0xEFFFF, 13}, {0xF0000, 1}, {0x10FFFF, 1}
        };
        for (int[] row : kinds) {
            Check.due("kind(" + row[0] + ")", desk.kind(row[0]), row[1]);
        }
    }

    private static void zeroOtherwise() {
        CharDesk desk = new CharDesk();
        // 20 is told to the base 16: the number 20 to the base 10 is no blank, and not allowed.
        int[] none = {0, 8, 0xB, 0xC, 0xE, 20, 0x1F, 0xD800, 0xDBFF, 0xDC00, 0xDFFF, 0xFFFE, 0xFFFF};
        for (int c : none) {
            Check.due("kind(" + c + ")", desk.kind(c), 0);
        }
        for (int c : Check.beyondCharacters()) {
            Check.due("kind(" + c + ")", desk.kind(c), 0);
        }
    }

    private static void everyNumber() {
        CharDesk desk = new CharDesk();
        for (int c = -300; c <= 0x110100; c++) {
            desk = Check.renewed(desk, c);
            Check.due("kind(" + c + ")", desk.kind(c), Model.kind(c));
        }
    }
}
