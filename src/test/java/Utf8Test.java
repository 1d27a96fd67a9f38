import java.util.Arrays;

/** The term UTF-8, as put and read find it: which bytes are a character, sentence by sentence. */
public final class Utf8Test {
    // Of each width one character; any bytes 10xxxxxx behind their first bytes are a character too.
    private static final int[][] SEQUENCES = {{0xC3, 0xA9}, {0xE2, 0x82, 0xAC}, {0xF1, 0x9F, 0x98, 0x80}};

    public static void main(String[] args) {
        oneByte();
        firstBytes();
        followingBytes();
        tooShort();
        tooShortBehindLongerText();
        asManyBytesAsItNeeds();
        notTheSurrogates();
        everyCharacter();
        Check.finish();
    }

    /** "one byte 0 .. 7F is that number" */
    private static void oneByte() {
        for (int b = 0x20; b <= 0x7F; b++) {
            Check.characters("one byte", Check.reading(b), b);
        }
        for (int b = 0x80; b <= 0xFF; b++) {
            Check.fault("one byte " + b, 1, 0, b);
        }
    }

    /** "the first byte is 110xxxxx, 1110xxxx or 11110xxx, and 1, 2 or 3 bytes follow" */
    private static void firstBytes() {
        for (int first = 0x80; first <= 0xFF; first++) {
            int width = widthBehind(first);
            if (width == 0) {
                Check.fault("no first byte " + first, 1, 1, 0x61, first, 0x80, 0x80, 0x80, 0x80, 0x80);
                continue;
            }
            int[] sequence = new int[width];
            Arrays.fill(sequence, 0x80);
            sequence[0] = first;
            sequence[1] = secondByteBehind(first);
            Check.places("first byte " + first, Check.reading(sequence), 0, width);
            Check.fault("one byte too few behind " + first, 1, 0, Arrays.copyOf(sequence, width - 1));
            int[] longer = Arrays.copyOf(sequence, width + 1);
            longer[width] = 0x80;
            Check.fault("one byte too many behind " + first, 1, width, longer);
        }
    }

    /** The numbers behind C0 and C1 need fewer bytes, those behind F5 and more are above 10FFFF. */
    private static int widthBehind(int first) {
        if (first >= 0xC2 && first <= 0xDF) {
            return 2;
        }
        if (first >= 0xE0 && first <= 0xEF) {
            return 3;
        }
        return first >= 0xF0 && first <= 0xF4 ? 4 : 0;
    }

    private static int secondByteBehind(int first) {
        return first == 0xE0 ? 0xA0 : first == 0xF0 ? 0x90 : 0x80;
    }

    /** "bytes 10xxxxxx follow: the x are the number's digits" */
    private static void followingBytes() {
        for (int[] sequence : SEQUENCES) {
            for (int k = 1; k < sequence.length; k++) {
                for (int b = 0; b <= 0xFF; b++) {
                    int[] changed = sequence.clone();
                    changed[k] = b;
                    followingByte(changed, b >= 0x80 && b <= 0xBF);
                }
            }
        }
    }

    private static void followingByte(int[] sequence, boolean isCharacter) {
        int[] text = new int[sequence.length + 2];
        Arrays.fill(text, 0x61);
        System.arraycopy(sequence, 0, text, 1, sequence.length);
        String what = Arrays.toString(text);
        if (isCharacter) {
            Check.characters(what, Check.reading(text), 0x61, numberOf(sequence), 0x61);
        } else {
            Check.fault(what, 1, 1, text);
        }
    }

    private static int numberOf(int[] sequence) {
        int number = sequence[0] % (1 << 7 - sequence.length);
        for (int k = 1; k < sequence.length; k++) {
            number = number * 64 + sequence[k] % 64;
        }
        return number;
    }

    /** "the one where a sequence begins that is broken or too short" */
    private static void tooShort() {
        for (int[] sequence : SEQUENCES) {
            for (int length = 1; length < sequence.length; length++) {
                int[] cut = Arrays.copyOf(sequence, length);
                Check.fault("cut at the end", 1, 1, joined(new int[] {0x61}, cut));
                Check.fault("cut before a", 1, 0, joined(cut, new int[] {0x61}));
                Check.fault("cut before a whole one", 1, 0, joined(cut, sequence));
                Check.fault("cut behind a whole one", 1, sequence.length, joined(sequence, cut));
                Check.fault("cut before D A", 1, 0, joined(cut, new int[] {0xD, 0xA}));
                cutAtTheLimit(cut);
            }
            wholeAtTheLimit(sequence);
        }
    }

    private static void cutAtTheLimit(int[] cut) {
        CharDesk desk = new CharDesk();
        Check.fill(desk, 1000 - cut.length);
        Check.putBytes(desk, cut);
        Check.due("cut at the limit: read()", desk.read(), -2);
        Check.due("cut at the limit: place()", desk.place(), 1000 - cut.length);
    }

    private static void wholeAtTheLimit(int[] sequence) {
        CharDesk desk = new CharDesk();
        int before = 1000 - sequence.length;
        Check.fill(desk, before);
        Check.putBytes(desk, sequence);
        Check.due("whole at the limit: read()", desk.read(), before + 1);
        Check.due("whole at the limit: at(last)", desk.at(before), numberOf(sequence));
        Check.due("whole at the limit: placeOf(last)", desk.placeOf(before), before);
        Check.due("whole at the limit: placeOf(count)", desk.placeOf(before + 1), 1000);
    }

    /** The bytes that an earlier text had there don't make a sequence whole. */
    private static void tooShortBehindLongerText() {
        for (int[] sequence : SEQUENCES) {
            for (int length = 1; length < sequence.length; length++) {
                CharDesk desk = Check.reading(sequence);
                Check.putBytes(desk, Arrays.copyOf(sequence, length));
                Check.due("cut behind a longer text: read()", desk.read(), -2);
                Check.due("cut behind a longer text: place()", desk.place(), 0);
            }
        }
    }

    private static int[] joined(int[] left, int[] right) {
        int[] both = Arrays.copyOf(left, left.length + right.length);
        System.arraycopy(right, 0, both, left.length, right.length);
        return both;
    }

    /** "It must need as many bytes (80 .. 7FF two, 800 .. FFFF three, 10000 .. 10FFFF four)" */
    private static void asManyBytesAsItNeeds() {
        int[] edges = {0x0, 0xA, 0x61, 0x7F, 0x80, 0x7FF, 0x800, 0xFFFD, 0x10000, 0x10FFFF, 0x110000, 0x13FFFF,
            0x140000, 0x1FFFFF};
        for (int c : edges) {
            for (int width = 2; width <= 4; width++) {
                if (c < 1 << 5 * width + 1) {
                    inWidth(c, width);
                }
            }
        }
        Check.fault("FFFF needs three, and is not allowed", 2, 0, spread(0xFFFF, 3));
        Check.fault("FFFF in four", 1, 0, spread(0xFFFF, 4));
        Check.fault("FEFF in four is not left out", 1, 0, spread(0xFEFF, 4));
    }

    private static void inWidth(int c, int width) {
        String what = Integer.toHexString(c) + " in " + width + " bytes";
        if (Model.encoded(c).length == width) {
            Check.characters(what, Check.reading(spread(c, width)), c);
        } else {
            Check.fault(what, 1, 1, joined(new int[] {0x61}, spread(c, width)));
        }
    }

    /** The number in so many bytes, be they needed or not. */
    private static int[] spread(int c, int width) {
        int[] bytes = new int[width];
        for (int k = width - 1; k > 0; k--) {
            bytes[k] = 0x80 + c % 64;
            c /= 64;
        }
        bytes[0] = new int[] {0xC0, 0xE0, 0xF0}[width - 2] + c;
        return bytes;
    }

    /** "and not be D800 .. DFFF" */
    private static void notTheSurrogates() {
        for (int c = 0xD800; c <= 0xDFFF; c++) {
            Check.fault(Integer.toHexString(c), 1, 0, spread(c, 3));
        }
        Check.characters("D7FF", Check.reading(spread(0xD7FF, 3)), 0xD7FF);
        Check.characters("E000", Check.reading(spread(0xE000, 3)), 0xE000);
        Check.fault("D83D DE00, each in three bytes", 1, 1,
            joined(new int[] {0x61}, joined(spread(0xD83D, 3), spread(0xDE00, 3))));
        Check.fault("D800 in four bytes", 1, 0, spread(0xD800, 4));
    }

    /** Every character by bytes and by number, a hundred in a text. */
    private static void everyCharacter() {
        for (int from = 0; from <= 0x10FFFF; from += 100) {
            CharDesk byBytes = new CharDesk();
            CharDesk byNumber = new CharDesk();
            Model model = new Model();
            for (int c = from; c < from + 100; c++) {
                byte[] bytes = Model.encoded(c);
                // A text with one that is not allowed would not show the others.
                if (bytes.length > 0 && (Model.kind(c) & 1) == 1) {
                    Check.due("put of " + c, byBytes.put(Model.bytes(c) >>> 56 - 8 * bytes.length, bytes.length), true);
                    Check.due("character(" + c + ")", byNumber.character(c), model.character(c));
                }
            }
            int count = model.read();
            sameReading(byBytes, model, count);
            sameReading(byNumber, model, count);
        }
    }

    private static void sameReading(CharDesk desk, Model model, int count) {
        Check.due("every character: read()", desk.read(), count);
        for (int i = 0; i < count; i++) {
            Check.due("every character: at(" + i + ")", desk.at(i), model.at(i));
            Check.due("every character: placeOf(" + i + ")", desk.placeOf(i), model.placeOf(i));
        }
    }
}
