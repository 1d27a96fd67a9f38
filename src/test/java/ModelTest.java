import java.util.Random;

/** Promises 1 to 11 together: long runs of calls of every kind, edges among their arguments, against the model. */
public final class ModelTest {
    private static final int[] CHARACTERS = {
        0x9, 0xA, 0xD, 0x20, '-', '1', ':', 'a', 'b', 0x7F, 0x80, 0xB7, 0x300, 0x37E, 0x7FF, 0x800, 0xD7FF, 0xE000,
        0xFEFF, 0xFFFD, 0x10000, 0xEFFFF, 0xF0000, 0x10FFFF
    };
    private static final int[] WRONG_CHARACTERS = {
        Check.LEAST, -1, 0, 8, 0xB, 0x1F, 0xD800, 0xDFFF, 0xFFFE, 0xFFFF, 0x110000, 0x200061, Check.MOST
    };
    private static final int[] BYTES = {0xD, 0xA, 0x20, 0x61, 0x2D, 0x80, 0xBF, 0xC2, 0xE2, 0xEF, 0xF0, 0xFF, 0x0};
    private static final int[] FAR = {
        Check.LEAST, Check.LEAST + 1, -1000, -1, 999, 1000, 1001, Check.MOST - 1, Check.MOST
    };

    private final Random random;
    private final int callsPerRead;
    private final int callsPerWrong;
    private final boolean isWide;
    private final CharDesk desk = new CharDesk();
    private final Model model = new Model();
    private final int run;

    private ModelTest(Random random, int run, int callsPerRead, int callsPerWrong, boolean isWide) {
        this.random = random;
        this.run = run;
        this.callsPerRead = callsPerRead;
        this.callsPerWrong = callsPerWrong;
        this.isWide = isWide;
    }

    public static void main(String[] args) {
        Random random = new Random(20261116);
        for (int run = 0; run < 1500; run++) {
            int callsPerRead = new int[] {4, 20, 100, 250}[run % 4];
            int callsPerWrong = new int[] {5, 40, 1000}[run % 3];
            new ModelTest(random, run, callsPerRead, callsPerWrong, run % 5 < 2).calls();
        }
        Check.finish();
    }

    private void calls() {
        for (int k = 0; k < Check.CALLS; k++) {
            if (random.nextInt(callsPerRead) == 0) {
                due("read()", desk.read(), model.read());
            } else if (random.nextInt(2) == 0) {
                add();
            } else {
                ask();
            }
        }
    }

    private void due(String call, long got, long want) {
        Check.due("run " + run + ": " + call, got, want);
    }

    private void due(String call, boolean got, boolean want) {
        Check.due("run " + run + ": " + call, got, want);
    }

    private boolean isWrong() {
        return random.nextInt(callsPerWrong) == 0;
    }

    private int one(int[] of) {
        return of[random.nextInt(of.length)];
    }

    private void add() {
        if (!isWide && random.nextInt(2) == 0) {
            int c = one(isWrong() ? WRONG_CHARACTERS : CHARACTERS);
            due("character(" + c + ")", desk.character(c), model.character(c));
            return;
        }
        int n = isWrong() ? random.nextInt(12) - 2 : isWide ? 8 - random.nextInt(8) % 3 : 1 + random.nextInt(8);
        long v = 0;
        for (int k = 0; k < 8; k++) {
            v = v << 8 | one(isWrong() ? BYTES : new int[] {0x61, 0x62, 0x20, 0xD, 0xA, 0x2D});
        }
        due("put(" + v + ", " + n + ")", desk.put(v, n), model.put(v, n));
    }

    /** An index near the reading's ends or in it, or a far one. */
    private int index() {
        int count = model.count();
        switch (random.nextInt(6)) {
            case 0:
                return one(FAR);
            case 1:
                return count - 2 + random.nextInt(5);
            case 2:
                return random.nextInt(3) - 1;
            default:
                return random.nextInt(count + 1);
        }
    }

    private void ask() {
        int i = index();
        int j = index();
        int n = random.nextInt(3) == 0 ? index() : random.nextInt(4);
        int c = one(random.nextBoolean() ? CHARACTERS : WRONG_CHARACTERS);
        int kind = random.nextInt(8) == 0 ? one(FAR) : random.nextInt(5) - 1;
        switch (random.nextInt(7)) {
            case 0:
                due("place()", desk.place(), model.place());
                break;
            case 1:
                due("at(" + i + ")", desk.at(i), model.at(i));
                break;
            case 2:
                due("placeOf(" + i + ")", desk.placeOf(i), model.placeOf(i));
                break;
            case 3:
                due("kind(" + c + ")", desk.kind(c), Model.kind(c));
                break;
            case 4:
                due("run(" + kind + ", " + i + ")", desk.run(kind, i), model.run(kind, i));
                break;
            case 5:
                due("compare(" + i + ", " + j + ", " + n + ")", desk.compare(i, j, n), model.compare(i, j, n));
                break;
            default:
                due("bytes(" + c + ")", desk.bytes(c), Model.bytes(c));
                break;
        }
    }
}
