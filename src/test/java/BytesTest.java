import java.nio.charset.StandardCharsets;

/** Promise 11: bytes, for every number around UTF-8's and for far ones. */
public final class BytesTest {
    public static void main(String[] args) {
        everyNumber();
        namedNumbers();
        Check.finish();
    }

    private static void everyNumber() {
        CharDesk desk = new CharDesk();
        for (int c = -300; c <= 0x110100; c++) {
            // An object's answers are promised for 512 calls.
            if (c % 500 == 0) {
                desk = new CharDesk();
            }
            Check.due("bytes(" + c + ")", desk.bytes(c), wanted(c));
        }
    }

    private static void namedNumbers() {
        CharDesk desk = new CharDesk();
        Check.due("bytes(0)", desk.bytes(0), 0x0100000000000000L);
        Check.due("bytes(7F)", desk.bytes(0x7F), 0x017F000000000000L);
        Check.due("bytes(E9)", desk.bytes(0xE9), 0x02C3A90000000000L);
        Check.due("bytes(20AC)", desk.bytes(0x20AC), 0x03E282AC00000000L);
        Check.due("bytes(10FFFF)", desk.bytes(0x10FFFF), 0x04F48FBFBF000000L);
        Check.due("bytes(least)", desk.bytes(Integer.MIN_VALUE), 0);
        Check.due("bytes(most)", desk.bytes(Integer.MAX_VALUE), 0);
        Check.due("bytes leave the text empty: read()", desk.read(), 0);
    }

    private static long wanted(int c) {
        if (c < 0 || c > 0x10FFFF || (c >= 0xD800 && c <= 0xDFFF)) {
            return 0;
        }
        byte[] bytes = new String(Character.toChars(c)).getBytes(StandardCharsets.UTF_8);
        long packed = bytes.length;
        for (int k = 0; k < 7; k++) {
            packed = packed << 8 | (k < bytes.length ? bytes[k] & 0xFF : 0);
        }
        return packed;
    }
}
