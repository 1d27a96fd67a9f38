/** Promise 11: bytes. */
public final class BytesTest {
    public static void main(String[] args) {
        fewestAndMostOfEachWidth();
        noneThatUtf8Has();
        notAllowedHasBytes();
        everyNumber();
        Check.finish();
    }

    private static void fewestAndMostOfEachWidth() {
        CharDesk desk = new CharDesk();
        Check.due("bytes(0)", desk.bytes(0), 0x0100000000000000L);
        Check.due("bytes(7F)", desk.bytes(0x7F), 0x017F000000000000L);
        Check.due("bytes(80)", desk.bytes(0x80), 0x02C2800000000000L);
        Check.due("bytes(E9)", desk.bytes(0xE9), 0x02C3A90000000000L);
        Check.due("bytes(7FF)", desk.bytes(0x7FF), 0x02DFBF0000000000L);
        Check.due("bytes(800)", desk.bytes(0x800), 0x03E0A08000000000L);
        Check.due("bytes(20AC)", desk.bytes(0x20AC), 0x03E282AC00000000L);
        Check.due("bytes(D7FF)", desk.bytes(0xD7FF), 0x03ED9FBF00000000L);
        Check.due("bytes(E000)", desk.bytes(0xE000), 0x03EE808000000000L);
        Check.due("bytes(FFFF)", desk.bytes(0xFFFF), 0x03EFBFBF00000000L);
        Check.due("bytes(10000)", desk.bytes(0x10000), 0x04F0908080000000L);
        Check.due("bytes(10FFFF)", desk.bytes(0x10FFFF), 0x04F48FBFBF000000L);
    }

    private static void noneThatUtf8Has() {
        CharDesk desk = new CharDesk();
        for (int c : new int[] {0xD800, 0xDBFF, 0xDC00, 0xDFFF}) {
            Check.due("bytes(" + c + ")", desk.bytes(c), 0);
        }
        for (int c : Check.beyondCharacters()) {
            Check.due("bytes(" + c + ")", desk.bytes(c), 0);
        }
    }

    private static void notAllowedHasBytes() {
        CharDesk desk = new CharDesk();
        Check.due("bytes(1F)", desk.bytes(0x1F), 0x011F000000000000L);
        Check.due("bytes(FFFE)", desk.bytes(0xFFFE), 0x03EFBFBE00000000L);
        // Line ends and the mark are changed by reading alone.
        Check.due("bytes(D)", desk.bytes(0xD), 0x010D000000000000L);
        Check.due("bytes(FEFF)", desk.bytes(0xFEFF), 0x03EFBBBF00000000L);
    }

    private static void everyNumber() {
        CharDesk desk = new CharDesk();
        for (int c = -300; c <= 0x110100; c++) {
            desk = Check.renewed(desk, c);
            Check.due("bytes(" + c + ")", desk.bytes(c), Model.bytes(c));
        }
    }
}
