import java.nio.ByteBuffer;
import java.nio.charset.CharacterCodingException;
import java.nio.charset.CodingErrorAction;
import java.nio.charset.StandardCharsets;
import java.util.ArrayList;
import java.util.Arrays;
import java.util.List;
import java.util.Random;

/** Promises 2 and 4 to 7 on many texts, against Java's own UTF-8 decoder. */
public final class DecoderTest {
    private static final int[] PIECES = {
        0x0, 0x9, 0xA, 0xD, 0xD, 0xA, 0x20, 0x61, 0x7F, 0x80, 0x8F, 0x90, 0x9F, 0xA0, 0xBB, 0xBF, 0xC0, 0xC1,
        0xC2, 0xDF, 0xE0, 0xE2, 0xED, 0xEE, 0xEF, 0xF0, 0xF1, 0xF4, 0xF5, 0xF8, 0xFF
    };
    private static final int[] CHARACTERS = {
        0x9, 0xA, 0xD, 0xD, 0xA, 0x20, 0x61, 0x7F, 0x80, 0x7FF, 0x800, 0xD7FF, 0xE000, 0xFEFF, 0xFFFD, 0x10000,
        0x10FFFF
    };

    public static void main(String[] args) {
        Random random = new Random(20261115);
        for (int k = 0; k < 100000; k++) {
            compareWithDecoder(pieces(random, 1 + random.nextInt(6)));
        }
        for (int k = 0; k < 20000; k++) {
            compareWithDecoder(characters(random, random.nextInt(40), random.nextInt(3) == 0));
        }
        Check.finish();
    }

    private static int[] pieces(Random random, int length) {
        int[] bytes = new int[length];
        for (int k = 0; k < length; k++) {
            bytes[k] = PIECES[random.nextInt(PIECES.length)];
        }
        return bytes;
    }

    private static int[] characters(Random random, int length, boolean spoiled) {
        StringBuilder text = new StringBuilder();
        for (int k = 0; k < length; k++) {
            text.appendCodePoint(CHARACTERS[random.nextInt(CHARACTERS.length)]);
        }
        byte[] encoded = text.toString().getBytes(StandardCharsets.UTF_8);
        int[] bytes = new int[encoded.length];
        for (int k = 0; k < bytes.length; k++) {
            bytes[k] = encoded[k] & 0xFF;
        }
        if (spoiled && bytes.length > 0) {
            bytes[random.nextInt(bytes.length)] = PIECES[random.nextInt(PIECES.length)];
        }
        return bytes;
    }

    private static void compareWithDecoder(int[] bytes) {
        CharDesk desk = new CharDesk();
        for (int b : bytes) {
            desk.put(b, 1);
        }
        List<int[]> found = new ArrayList<>();
        int place = 0;
        int fault = 0;
        while (place < bytes.length && fault == 0) {
            String one = firstCharacter(bytes, place);
            fault = one == null ? 1 : isAllowed(one.codePointAt(0)) ? 0 : 2;
            if (fault == 0) {
                found.add(new int[] {one.codePointAt(0), place});
                place += one.getBytes(StandardCharsets.UTF_8).length;
            }
        }
        String what = Arrays.toString(bytes);
        if (fault != 0) {
            Check.due(what + ": read()", desk.read(), -1 - fault);
            Check.due(what + ": place()", desk.place(), place);
            return;
        }
        List<int[]> kept = withoutMarkAndReturns(found);
        Check.due(what + ": read()", desk.read(), kept.size());
        Check.due(what + ": place()", desk.place(), -1);
        for (int i = 0; i < kept.size(); i++) {
            Check.due(what + ": at(" + i + ")", desk.at(i), kept.get(i)[0]);
            Check.due(what + ": placeOf(" + i + ")", desk.placeOf(i), kept.get(i)[1]);
        }
        Check.due(what + ": placeOf(the end)", desk.placeOf(kept.size()), bytes.length);
    }

    /** The character of the shortest stretch from there on that Java decodes, or null. */
    private static String firstCharacter(int[] bytes, int from) {
        for (int length = 1; length <= 4 && from + length <= bytes.length; length++) {
            byte[] stretch = new byte[length];
            for (int k = 0; k < length; k++) {
                stretch[k] = (byte) bytes[from + k];
            }
            try {
                return StandardCharsets.UTF_8.newDecoder().onMalformedInput(CodingErrorAction.REPORT)
                    .onUnmappableCharacter(CodingErrorAction.REPORT).decode(ByteBuffer.wrap(stretch)).toString();
            } catch (CharacterCodingException broken) {
                continue;
            }
        }
        return null;
    }

    private static boolean isAllowed(int c) {
        return c == 9 || c == 0xA || c == 0xD || (c >= 0x20 && c != 0xFFFE && c != 0xFFFF);
    }

    private static List<int[]> withoutMarkAndReturns(List<int[]> found) {
        List<int[]> kept = new ArrayList<>();
        for (int i = 0; i < found.size(); i++) {
            int c = found.get(i)[0];
            boolean isMark = i == 0 && c == 0xFEFF;
            boolean endsAPair = i > 0 && c == 0xA && found.get(i - 1)[0] == 0xD;
            if (!isMark && !endsAPair) {
                kept.add(new int[] {c == 0xD ? 0xA : c, found.get(i)[1]});
            }
        }
        return kept;
    }
}
