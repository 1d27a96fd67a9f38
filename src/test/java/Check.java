import java.util.ArrayList;
import java.util.List;

/** Counts the answers that are not the ones due, and makes objects that have read a text. */
final class Check {
    /** What an object's answers are promised for. */
    static final int CALLS = 512;
    static final int LEAST = Integer.MIN_VALUE;
    static final int MOST = Integer.MAX_VALUE;

    private static int wrong = 0;
    private static int asked = 0;

    private Check() {
    }

    static void due(String call, long got, long want) {
        asked++;
        if (got != want) {
            wrong++;
            System.out.println(call + " answered " + got + ", due is " + want);
        }
    }

    static void due(String call, boolean got, boolean want) {
        due(call, got ? 1L : 0L, want ? 1L : 0L);
    }

    static void finish() {
        System.out.println(asked + " answers, " + wrong + " not as due");
        if (wrong != 0) {
            System.exit(1);
        }
    }

    /** A new object every 500 steps, as an object's answers are promised for so many calls alone. */
    static CharDesk renewed(CharDesk desk, int step) {
        return step % 500 == 0 ? new CharDesk() : desk;
    }

    /** Numbers below 0 and above 10FFFF, such too as are characters but for one high bit. */
    static List<Integer> beyondCharacters() {
        List<Integer> numbers = new ArrayList<>(
            List.of(LEAST, LEAST + 1, -0x10FFFF, -0x61, -1, 0x110000, 0x1FFFFF, MOST));
        for (int bit = 21; bit < 32; bit++) {
            for (int c : new int[] {0, 0x9, 0x20, 0x61, 0xE9, 0x20AC, 0x10000}) {
                numbers.add(1 << bit | c);
            }
        }
        return numbers;
    }

    static void putBytes(CharDesk desk, int... bytes) {
        for (int b : bytes) {
            due("put(" + b + ", 1)", desk.put(b, 1), true);
        }
    }

    static void fill(CharDesk desk, int length) {
        for (int k = 0; k < length / 8; k++) {
            due("put, filling", desk.put(0x6161616161616161L, 8), true);
        }
        if (length % 8 != 0) {
            due("put, filling", desk.put(0x6161616161616161L, length % 8), true);
        }
    }

    static CharDesk reading(int... bytes) {
        CharDesk desk = new CharDesk();
        putBytes(desk, bytes);
        desk.read();
        return desk;
    }

    static CharDesk readingCharacters(int... characters) {
        CharDesk desk = new CharDesk();
        for (int c : characters) {
            due("character(" + c + ")", desk.character(c), true);
        }
        due("read()", desk.read(), characters.length);
        return desk;
    }

    /** Reads the bytes on a new object, and wants that fault there and nothing read. */
    static void fault(String what, int fault, int place, int... bytes) {
        CharDesk desk = new CharDesk();
        putBytes(desk, bytes);
        due(what + ": read()", desk.read(), -1 - fault);
        due(what + ": place()", desk.place(), place);
        nothingRead(what, desk);
    }

    static void characters(String what, CharDesk desk, int... want) {
        for (int i = 0; i < want.length; i++) {
            due(what + ": at(" + i + ")", desk.at(i), want[i]);
        }
        due(what + ": at(-1)", desk.at(-1), -1);
        due(what + ": at behind the last", desk.at(want.length), -1);
    }

    /** The last of the wanted places is the text's length. */
    static void places(String what, CharDesk desk, int... want) {
        for (int i = 0; i < want.length; i++) {
            due(what + ": placeOf(" + i + ")", desk.placeOf(i), want[i]);
        }
        due(what + ": placeOf(-1)", desk.placeOf(-1), -1);
        due(what + ": placeOf behind the length", desk.placeOf(want.length), -1);
    }

    static void nothingRead(String what, CharDesk desk) {
        for (int i : new int[] {LEAST, -1, 0, 1, 999, 1000, 1001, MOST}) {
            due(what + ": at(" + i + ")", desk.at(i), -1);
            due(what + ": placeOf(" + i + ")", desk.placeOf(i), -1);
            for (int kind = -1; kind <= 3; kind++) {
                due(what + ": run(" + kind + ", " + i + ")", desk.run(kind, i), 0);
            }
            due(what + ": compare(" + i + ", " + i + ", 0)", desk.compare(i, i, 0), -2);
        }
        due(what + ": compare(0, 0, 1)", desk.compare(0, 0, 1), -2);
    }
}
