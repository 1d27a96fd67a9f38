import java.util.ArrayList;
import java.util.List;
import java.util.function.Consumer;
import java.util.function.Supplier;

/** "A call that is refused changes nothing.": each such call alone, on an object in each kind of state. */
public final class RefusalTest {
    private static final int[] WRONG_INDEXES = {Check.LEAST, -1, 1001, Check.MOST};

    public static void main(String[] args) {
        refusedInEveryState();
        refusedWhenFull();
        refusedWhenAlmostFull();
        refusedWhenNothingIsRead();
        questionsChangeNothing();
        Check.finish();
    }

    /** Objects that have nothing, a text, a reading, both, a fault, and a fault and a text. */
    private static List<Supplier<CharDesk>> states() {
        return List.of(CharDesk::new, () -> texted(new CharDesk()), () -> Check.reading('x', ' ', 0xC3, 0xA9),
            () -> texted(Check.reading('x', ' ', 0xC3, 0xA9)), () -> Check.reading('x', 'y', 0xFF),
            () -> texted(Check.reading('x', 'y', 0xFF)), () -> Check.reading());
    }

    /** It ends in a D, so that an A that came behind it would show in the places alone. */
    private static CharDesk texted(CharDesk desk) {
        Check.putBytes(desk, 'p', 0xC3, 0xA9, 'q', 0xD);
        return desk;
    }

    private static CharDesk filled(int length) {
        CharDesk desk = Check.readingCharacters('x', ' ', 0xE9);
        Check.fill(desk, length);
        return desk;
    }

    private static void refusedInEveryState() {
        for (Supplier<CharDesk> state : states()) {
            for (int n : new int[] {Check.LEAST, -8, -1, 0, 9, 64, Check.MOST}) {
                changesNothing("put(0A, " + n + ")", state, desk -> Check.due("put", desk.put(0x0A0A0A0AL, n), false));
            }
            for (int c : Check.beyondCharacters()) {
                changesNothing("character(" + c + ")", state,
                    desk -> Check.due("character", desk.character(c), false));
            }
            for (int c = 0xD800; c <= 0xDFFF; c += 0xFF) {
                int none = c;
                changesNothing("character(" + c + ")", state,
                    desk -> Check.due("character", desk.character(none), false));
            }
            refusedQuestions(state);
        }
    }

    private static void refusedQuestions(Supplier<CharDesk> state) {
        for (int i : WRONG_INDEXES) {
            changesNothing("at", state, desk -> Check.due("at", desk.at(i), -1));
            changesNothing("placeOf", state, desk -> Check.due("placeOf", desk.placeOf(i), -1));
            changesNothing("run", state, desk -> Check.due("run", desk.run(0, i), 0));
            changesNothing("run of no kind", state, desk -> Check.due("run", desk.run(i, 0), 0));
            changesNothing("compare", state, desk -> Check.due("compare", desk.compare(i, 0, 1), -2));
            changesNothing("compare", state, desk -> Check.due("compare", desk.compare(0, i, 1), -2));
            changesNothing("compare", state, desk -> Check.due("compare", desk.compare(0, 0, i), -2));
            changesNothing("kind", state, desk -> Check.due("kind", desk.kind(i | 1 << 31), 0));
            changesNothing("bytes", state, desk -> Check.due("bytes", desk.bytes(i | 1 << 31), 0));
        }
    }

    private static void refusedWhenFull() {
        for (int n = 1; n <= 8; n++) {
            int count = n;
            changesNothing("put when full", () -> filled(1000),
                desk -> Check.due("put", desk.put(0x6262626262626262L, count), false));
        }
        for (int c : new int[] {0x62, 0x80, 0x800, 0x10000}) {
            changesNothing("character when full", () -> filled(1000),
                desk -> Check.due("character", desk.character(c), false));
        }
    }

    private static void refusedWhenAlmostFull() {
        for (int n = 2; n <= 8; n++) {
            int count = n;
            changesNothing("put when almost full", () -> filled(1001 - count),
                desk -> Check.due("put", desk.put(0x6262626262626262L, count), false));
        }
        int[] least = {0x80, 0x800, 0x10000};
        for (int width = 2; width <= 4; width++) {
            int c = least[width - 2];
            int length = 1001 - width;
            changesNothing("character when almost full", () -> filled(length),
                desk -> Check.due("character", desk.character(c), false));
        }
    }

    private static void refusedWhenNothingIsRead() {
        List<Supplier<CharDesk>> unread = List.of(CharDesk::new, () -> texted(new CharDesk()),
            () -> texted(Check.reading('x', 'y', 0xFF)), () -> Check.reading('x', 'y', 0));
        for (Supplier<CharDesk> state : unread) {
            changesNothing("at(0)", state, desk -> Check.due("at", desk.at(0), -1));
            changesNothing("placeOf(0)", state, desk -> Check.due("placeOf", desk.placeOf(0), -1));
            changesNothing("run(0, 0)", state, desk -> Check.due("run", desk.run(0, 0), 0));
            changesNothing("compare(0, 0, 0)", state, desk -> Check.due("compare", desk.compare(0, 0, 0), -2));
        }
    }

    /** Questions that are answered change nothing either. */
    private static void questionsChangeNothing() {
        for (Supplier<CharDesk> state : states()) {
            changesNothing("place", state, CharDesk::place);
            changesNothing("at", state, desk -> desk.at(1));
            changesNothing("placeOf", state, desk -> desk.placeOf(1));
            changesNothing("kind", state, desk -> desk.kind('a'));
            changesNothing("run", state, desk -> desk.run(0, 0));
            changesNothing("compare", state, desk -> desk.compare(0, 1, 1));
            changesNothing("bytes", state, desk -> desk.bytes(0x10FFFF));
        }
    }

    private static void changesNothing(String what, Supplier<CharDesk> state, Consumer<CharDesk> call) {
        CharDesk called = state.get();
        call.accept(called);
        List<Integer> want = allAnswers(state.get());
        List<Integer> got = allAnswers(called);
        for (int k = 0; k < want.size(); k++) {
            Check.due("behind " + what + ": answer " + k, got.get(k), want.get(k));
        }
    }

    /** What the object tells of its reading and, by a byte more and two reads, of its text. */
    private static List<Integer> allAnswers(CharDesk desk) {
        List<Integer> answers = new ArrayList<>();
        addReading(answers, desk);
        answers.add(desk.put('z', 1) ? 1 : 0);
        answers.add(desk.read());
        addReading(answers, desk);
        answers.add(desk.read());
        return answers;
    }

    private static void addReading(List<Integer> answers, CharDesk desk) {
        answers.add(desk.place());
        answers.add(desk.compare(0, 0, 0));
        for (int i : new int[] {-1, 0, 1, 2, 3, 4, 5, 6, 7, 990, 992, 993, 994, 995, 996, 997, 998, 999, 1000, 1001}) {
            answers.add(desk.at(i));
            answers.add(desk.placeOf(i));
            answers.add(desk.run(1, i));
        }
    }
}
