import java.io.ByteArrayOutputStream;
import java.nio.ByteBuffer;
import java.nio.CharBuffer;
import java.nio.charset.CharsetDecoder;
import java.nio.charset.CodingErrorAction;
import java.nio.charset.StandardCharsets;
import java.util.Arrays;
import java.util.regex.Matcher;
import java.util.regex.Pattern;

/** The document once more, with Java's own decoder, encoder and patterns: what the tests compare with. */
final class Model {
    private static final String BEGINS = ":_A-Za-z\\x{C0}-\\x{D6}\\x{D8}-\\x{F6}\\x{F8}-\\x{2FF}"
        + "\\x{370}-\\x{37D}\\x{37F}-\\x{1FFF}\\x{200C}\\x{200D}\\x{2070}-\\x{218F}\\x{2C00}-\\x{2FEF}"
        + "\\x{3001}-\\x{D7FF}\\x{F900}-\\x{FDCF}\\x{FDF0}-\\x{FFFD}\\x{10000}-\\x{EFFFF}";
    private static final String PARTS = BEGINS + "\\-.0-9\\x{B7}\\x{300}-\\x{36F}\\x{203F}\\x{2040}";
    private static final Pattern NAME_BEGIN = Pattern.compile("[" + BEGINS + "]");
    private static final Pattern NAME_PART = Pattern.compile("[" + PARTS + "]");
    private static final Pattern BLANK = Pattern.compile("[\\x20\\x09\\x0D\\x0A]");
    private static final Pattern ALLOWED =
        Pattern.compile("[\\x09\\x0A\\x0D\\x20-\\x{D7FF}\\x{E000}-\\x{FFFD}\\x{10000}-\\x{10FFFF}]");
    private static final Pattern[] RUNS = {
        Pattern.compile("[" + BEGINS + "][" + PARTS + "]*+"), Pattern.compile("[" + PARTS + "]++"),
        Pattern.compile("[\\x20\\x09\\x0D\\x0A]++")
    };

    private final ByteArrayOutputStream text = new ByteArrayOutputStream();
    private int[] characters = {};
    private int[] places = {};
    private boolean isRead = false;
    private int faultPlace = -1;

    static byte[] encoded(int c) {
        boolean isNone = c < 0 || c > 0x10FFFF || (c >= 0xD800 && c <= 0xDFFF);
        return isNone ? new byte[0] : new String(Character.toChars(c)).getBytes(StandardCharsets.UTF_8);
    }

    static long bytes(int c) {
        byte[] bytes = encoded(c);
        long packed = bytes.length;
        for (int k = 0; k < 7; k++) {
            packed = packed << 8 | (k < bytes.length ? bytes[k] & 0xFF : 0);
        }
        return packed;
    }

    static int kind(int c) {
        if (c < 0 || c > 0x10FFFF) {
            return 0;
        }
        String one = new String(Character.toChars(c));
        return (ALLOWED.matcher(one).matches() ? 1 : 0) + (BLANK.matcher(one).matches() ? 2 : 0)
            + (NAME_BEGIN.matcher(one).matches() ? 4 : 0) + (NAME_PART.matcher(one).matches() ? 8 : 0);
    }

    int count() {
        return characters.length;
    }

    boolean put(long v, int n) {
        if (n < 1 || n > 8) {
            return false;
        }
        return add(Arrays.copyOfRange(ByteBuffer.allocate(8).putLong(v).array(), 8 - n, 8));
    }

    boolean character(int c) {
        return add(encoded(c));
    }

    private boolean add(byte[] bytes) {
        if (bytes.length == 0 || text.size() + bytes.length > 1000) {
            return false;
        }
        text.write(bytes, 0, bytes.length);
        return true;
    }

    int read() {
        byte[] bytes = text.toByteArray();
        text.reset();
        characters = new int[0];
        places = new int[0];
        faultPlace = -1;
        ByteBuffer in = ByteBuffer.wrap(bytes);
        CharBuffer out = CharBuffer.allocate(bytes.length);
        CharsetDecoder decoder = StandardCharsets.UTF_8.newDecoder()
            .onMalformedInput(CodingErrorAction.REPORT).onUnmappableCharacter(CodingErrorAction.REPORT);
        boolean isBroken = decoder.decode(in, out, true).isError();
        int fault = isBroken ? 1 : 0;
        int[] found = out.flip().toString().codePoints().toArray();
        faultPlace = isBroken ? in.position() : -1;
        int[] begins = beginsOf(found, bytes.length);
        for (int k = found.length - 1; k >= 0; k--) {
            if (!ALLOWED.matcher(new String(found, k, 1)).matches()) {
                fault = 2;
                faultPlace = begins[k];
            }
        }
        isRead = fault == 0;
        if (isRead) {
            keep(found, begins);
        }
        return isRead ? characters.length : -1 - fault;
    }

    private static int[] beginsOf(int[] found, int length) {
        int[] begins = new int[found.length + 1];
        for (int k = 0; k < found.length; k++) {
            begins[k + 1] = begins[k] + encoded(found[k]).length;
        }
        begins[found.length] = length;
        return begins;
    }

    private void keep(int[] found, int[] begins) {
        characters = new int[found.length];
        places = new int[found.length + 1];
        int kept = 0;
        for (int k = 0; k < found.length; k++) {
            boolean isMark = k == 0 && found[k] == 0xFEFF;
            boolean endsAPair = k > 0 && found[k - 1] == 0xD && found[k] == 0xA;
            if (!isMark && !endsAPair) {
                characters[kept] = found[k] == 0xD ? 0xA : found[k];
                places[kept] = begins[k];
                kept++;
            }
        }
        places[kept] = begins[found.length];
        characters = Arrays.copyOf(characters, kept);
        places = Arrays.copyOf(places, kept + 1);
    }

    int place() {
        return faultPlace;
    }

    int at(int i) {
        return i >= 0 && i < characters.length ? characters[i] : -1;
    }

    int placeOf(int i) {
        return i >= 0 && i < places.length ? places[i] : -1;
    }

    int run(int kind, int i) {
        if (kind < 0 || kind > 2 || i < 0 || i >= characters.length) {
            return 0;
        }
        String rest = new String(characters, i, characters.length - i);
        Matcher matcher = RUNS[kind].matcher(rest);
        return matcher.lookingAt() ? rest.codePointCount(0, matcher.end()) : 0;
    }

    int compare(int i, int j, int n) {
        boolean isRefused = !isRead || n < 0 || i < 0 || j < 0 || (long) i + n > characters.length
            || (long) j + n > characters.length;
        return isRefused ? -2 : Integer.signum(Arrays.compare(characters, i, i + n, characters, j, j + n));
    }
}
