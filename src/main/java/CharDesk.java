/**
 * Bytes as characters: which bytes mean which, which characters may be, how lines end,
 * where each one stands, and what names and tokens are made of.
 */
public final class CharDesk {
    private static final int TEXT_LIMIT = 1000;
    private static final int LONG_BYTES = 8;

    private static final int NONE = -1;
    private static final int MARK = 0xFEFF;
    private static final int LINE_END = 0xA;
    private static final int RETURN = 0xD;

    private static final int NO_FAULT = 0;
    private static final int FAULT_NO_CHARACTER = 1;
    private static final int FAULT_NOT_ALLOWED = 2;

    private static final int KIND_ALLOWED = 1;
    private static final int KIND_BLANK = 2;
    private static final int KIND_NAME_BEGIN = 4;
    private static final int KIND_NAME_PART = 8;

    private static final int RUN_NAME = 0;
    private static final int RUN_TOKEN = 1;
    private static final int RUN_BLANKS = 2;

    private static final int NOT_COMPARED = -2;

    // Each row of ranges holds pairs: a range's first character and its last one.
    private static final int[] ALLOWED = {
        0x9, 0xA, 0xD, 0xD, 0x20, 0xD7FF, 0xE000, 0xFFFD, 0x10000, 0x10FFFF
    };
    private static final int[] BLANKS = {
        0x20, 0x20, 0x9, 0xA, 0xD, 0xD
    };
    private static final int[] NAME_BEGINS = {
        ':', ':', '_', '_', 'A', 'Z', 'a', 'z', 0xC0, 0xD6, 0xD8, 0xF6, 0xF8, 0x2FF,
        0x370, 0x37D, 0x37F, 0x1FFF, 0x200C, 0x200D, 0x2070, 0x218F, 0x2C00, 0x2FEF,
        0x3001, 0xD7FF, 0xF900, 0xFDCF, 0xFDF0, 0xFFFD, 0x10000, 0xEFFFF
    };
    private static final int[] FURTHER_NAME_PARTS = {
        '-', '.', '0', '9', 0xB7, 0xB7, 0x300, 0x36F, 0x203F, 0x2040
    };

    private final int[] text;
    private int textLength;

    private final int[] characters;
    private final int[] places;
    private int count;
    // The length of the text that was read, or NONE when nothing is read.
    private int readLength;
    private int faultPlace;

    public CharDesk() {
        text = new int[TEXT_LIMIT];
        characters = new int[TEXT_LIMIT];
        places = new int[TEXT_LIMIT];
        textLength = 0;
        count = 0;
        readLength = NONE;
        faultPlace = NONE;
    }

    public boolean put(long v, int n) {
        if (n < 1 || n > LONG_BYTES || !hasRoomFor(n)) {
            return false;
        }
        for (int k = n - 1; k >= 0; k--) {
            append((int) (v >>> (8 * k)) & 0xFF);
        }
        return true;
    }

    public boolean character(int c) {
        int width = widthOf(c);
        if (width == 0 || !hasRoomFor(width)) {
            return false;
        }
        for (int k = 0; k < width; k++) {
            append(encodedByte(c, width, k));
        }
        return true;
    }

    public int read() {
        forgetReading();
        int fault = readText();
        if (fault == NO_FAULT) {
            readLength = textLength;
        } else {
            count = 0;
        }
        textLength = 0;
        return fault == NO_FAULT ? count : -1 - fault;
    }

    public int place() {
        return faultPlace;
    }

    public int at(int i) {
        return hasCharacter(i) ? characters[i] : NONE;
    }

    public int placeOf(int i) {
        if (hasCharacter(i)) {
            return places[i];
        }
        return i == count ? readLength : NONE;
    }

    public int kind(int c) {
        int sum = 0;
        if (isIn(ALLOWED, c)) {
            sum += KIND_ALLOWED;
        }
        if (isIn(BLANKS, c)) {
            sum += KIND_BLANK;
        }
        if (isIn(NAME_BEGINS, c)) {
            sum += KIND_NAME_BEGIN;
        }
        if (isNamePart(c)) {
            sum += KIND_NAME_PART;
        }
        return sum;
    }

    public int run(int kind, int i) {
        if (!hasCharacter(i)) {
            return 0;
        }
        if (kind == RUN_NAME && !isIn(NAME_BEGINS, characters[i])) {
            return 0;
        }
        int end = i;
        while (end < count && belongsToRun(kind, characters[end])) {
            end++;
        }
        return end - i;
    }

    public int compare(int i, int j, int n) {
        if (!hasStretch(i, n) || !hasStretch(j, n)) {
            return NOT_COMPARED;
        }
        for (int k = 0; k < n; k++) {
            int order = Integer.compare(characters[i + k], characters[j + k]);
            if (order != 0) {
                return order < 0 ? -1 : 1;
            }
        }
        return 0;
    }

    public long bytes(int c) {
        int width = widthOf(c);
        long packed = (long) width << 56;
        for (int k = 0; k < width; k++) {
            packed |= (long) encodedByte(c, width, k) << (48 - 8 * k);
        }
        return packed;
    }

    private boolean hasRoomFor(int n) {
        return n <= TEXT_LIMIT - textLength;
    }

    private void append(int oneByte) {
        if (textLength < TEXT_LIMIT) {
            text[textLength] = oneByte;
            textLength++;
        }
    }

    private void forgetReading() {
        count = 0;
        readLength = NONE;
        faultPlace = NONE;
    }

    /** Reads what the text holds, and answers its fault; what came before a fault is kept. */
    private int readText() {
        int next = 0;
        for (int from = 0; from < textLength; from++) {
            if (from < next) {
                continue;
            }
            int c = decodedAt(from);
            int fault = faultOf(c);
            if (fault != NO_FAULT) {
                faultPlace = from;
                return fault;
            }
            if (!isLeftOut(c, from)) {
                keep(c == RETURN ? LINE_END : c, from);
            }
            next = from + widthOf(c);
        }
        return NO_FAULT;
    }

    private static int faultOf(int c) {
        if (c == NONE) {
            return FAULT_NO_CHARACTER;
        }
        return isIn(ALLOWED, c) ? NO_FAULT : FAULT_NOT_ALLOWED;
    }

    private boolean isLeftOut(int c, int from) {
        if (from == 0) {
            return c == MARK;
        }
        // No longer sequence ends in this byte, so it is a character before this one.
        return c == LINE_END && text[from - 1] == RETURN;
    }

    private void keep(int c, int from) {
        if (count < TEXT_LIMIT) {
            characters[count] = c;
            places[count] = from;
            count++;
        }
    }

    /** The character whose bytes begin there, or NONE if they are no character's. */
    private int decodedAt(int from) {
        int first = text[from];
        int followers = followersOf(first);
        if (followers < 0 || from + followers >= textLength) {
            return NONE;
        }
        int c = followers == 0 ? first : first & (0x3F >> followers);
        for (int k = 1; k <= followers; k++) {
            int follower = text[from + k];
            if ((follower & 0xC0) != 0x80) {
                return NONE;
            }
            c = c << 6 | follower & 0x3F;
        }
        // A number in more bytes than it needs is no character.
        return widthOf(c) == followers + 1 ? c : NONE;
    }

    /** How many bytes must follow such a first byte, or NONE if no character begins so. */
    private static int followersOf(int first) {
        if (first < 0x80) {
            return 0;
        }
        if ((first & 0xE0) == 0xC0) {
            return 1;
        }
        if ((first & 0xF0) == 0xE0) {
            return 2;
        }
        return (first & 0xF8) == 0xF0 ? 3 : NONE;
    }

    /** How many bytes the character needs, or 0 if UTF-8 has none such. */
    private static int widthOf(int c) {
        if (c < 0 || c > 0x10FFFF || (c >= 0xD800 && c <= 0xDFFF)) {
            return 0;
        }
        if (c <= 0x7F) {
            return 1;
        }
        if (c <= 0x7FF) {
            return 2;
        }
        return c <= 0xFFFF ? 3 : 4;
    }

    /** Byte k of the character's bytes, of which there are as many as width says. */
    private static int encodedByte(int c, int width, int k) {
        int digits = c >> (6 * (width - 1 - k));
        if (k > 0) {
            return 0x80 | digits & 0x3F;
        }
        return firstByteMark(width) | digits;
    }

    private static int firstByteMark(int width) {
        switch (width) {
            case 2:
                return 0xC0;
            case 3:
                return 0xE0;
            case 4:
                return 0xF0;
            default:
                return 0;
        }
    }

    private boolean hasCharacter(int i) {
        return i >= 0 && i < count;
    }

    private boolean hasStretch(int i, int n) {
        // The difference can't overflow as the sum could: count and n are both 0 or more.
        return readLength != NONE && n >= 0 && i >= 0 && i <= count - n;
    }

    private static boolean belongsToRun(int kind, int c) {
        switch (kind) {
            case RUN_NAME:
            case RUN_TOKEN:
                return isNamePart(c);
            case RUN_BLANKS:
                return isIn(BLANKS, c);
            default:
                return false;
        }
    }

    private static boolean isNamePart(int c) {
        return isIn(NAME_BEGINS, c) || isIn(FURTHER_NAME_PARTS, c);
    }

    private static boolean isIn(int[] ranges, int c) {
        for (int k = 0; k + 1 < ranges.length; k += 2) {
            if (c >= ranges[k] && c <= ranges[k + 1]) {
                return true;
            }
        }
        return false;
    }
}
