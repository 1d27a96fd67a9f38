import java.util.Arrays;
import java.util.Random;

/** Promises 2 and 4 to 7 on many short texts, against the model, which reads with Java's own decoder. */
public final class DecoderTest {
    private static final int[] PIECES = {
        0x0, 0x9, 0xA, 0xD, 0xD, 0xA, 0x20, 0x61, 0x7F, 0x80, 0x8F, 0x90, 0x9F, 0xA0, 0xBB, 0xBF, 0xC0, 0xC1,
        0xC2, 0xDF, 0xE0, 0xE2, 0xED, 0xEE, 0xEF, 0xF0, 0xF1, 0xF4, 0xF5, 0xF8, 0xFF
    };
    private static final int[] CHARACTERS = {
        0x9, 0xA, 0xD, 0xD, 0xA, 0x20, 0x61, 0x7F, 0x80, 0x7FF, 0x800, 0xD7FF, 0xE000, 0xFEFF, 0xFFFD, 0x10000,
        0x10FFFF
    };

    public static void main(String[] args) {
        for (int pair = 0; pair <= 0xFFFF; pair++) {
            compareWithModel(pair >> 8, pair & 0xFF);
        }
        Random random = new Random(20261115);
        for (int k = 0; k < 200000; k++) {
            compareWithModel(pieces(random, 1 + random.nextInt(6)));
        }
        for (int k = 0; k < 20000; k++) {
            compareWithModel(characters(random, random.nextInt(40), random.nextInt(3) == 0));
        }
        Check.finish();
    }

    private static int[] pieces(Random random, int length) {
        int[] bytes = new int[length];
        for (int k = 0; k < length; k++) {
            bytes[k] = PIECES[random.nextInt(PIECES.length)];
        }
        return bytes;
    }

    private static int[] characters(Random random, int length, boolean spoiled) {
        int[] bytes = new int[4 * length];
        int end = 0;
        for (int k = 0; k < length; k++) {
            for (byte b : Model.encoded(CHARACTERS[random.nextInt(CHARACTERS.length)])) {
                bytes[end++] = b & 0xFF;
            }
        }
        if (spoiled && end > 0) {
            bytes[random.nextInt(end)] = PIECES[random.nextInt(PIECES.length)];
        }
        return Arrays.copyOf(bytes, end);
    }

    private static void compareWithModel(int... bytes) {
        CharDesk desk = new CharDesk();
        Model model = new Model();
        for (int b : bytes) {
            desk.put(b, 1);
            model.put(b, 1);
        }
        String what = Arrays.toString(bytes);
        Check.due(what + ": read()", desk.read(), model.read());
        Check.due(what + ": place()", desk.place(), model.place());
        for (int i = 0; i <= model.count(); i++) {
            Check.due(what + ": at(" + i + ")", desk.at(i), model.at(i));
            Check.due(what + ": placeOf(" + i + ")", desk.placeOf(i), model.placeOf(i));
        }
    }
}
