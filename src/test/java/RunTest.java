/** Promise 9: run. */
public final class RunTest {
    public static void main(String[] args) {
        names();
        tokens();
        blanks();
        wrongInputs();
        Check.finish();
    }

    private static void names() {
        CharDesk desk = Check.readingCharacters('a', '-', '1', ' ', '1', 'b', 0x300, '<', ':', '_', 0x10000);
        runs(desk, 0, 3, 0, 0, 0, 0, 2, 0, 0, 3, 2, 1);
    }

    private static void tokens() {
        CharDesk desk = Check.readingCharacters('a', '-', '1', ' ', '1', 'b', 0x300, '<', ':', '_', 0x10000);
        runs(desk, 1, 3, 2, 1, 0, 3, 2, 1, 0, 3, 2, 1);
    }

    private static void blanks() {
        CharDesk desk = Check.reading(' ', 9, 0xD, 0xA, 0xD, 'a', 0xA, 0xC2, 0xA0, ' ');
        runs(desk, 2, 4, 3, 2, 1, 0, 1, 0, 1);
        runs(desk, 0, 0, 0, 0, 0, 1, 0, 0, 0);
        runs(desk, 1, 0, 0, 0, 0, 1, 0, 0, 0);
    }

    private static void runs(CharDesk desk, int kind, int... want) {
        for (int i = 0; i < want.length; i++) {
            Check.due("run(" + kind + ", " + i + ")", desk.run(kind, i), want[i]);
        }
        Check.due("run(" + kind + ", behind the last)", desk.run(kind, want.length), 0);
    }

    private static void wrongInputs() {
        CharDesk desk = Check.readingCharacters('a', ' ');
        for (int kind : new int[] {Integer.MIN_VALUE, -1, 3, 4, 8, Integer.MAX_VALUE}) {
            Check.due("run(" + kind + ", 0)", desk.run(kind, 0), 0);
            Check.due("run(" + kind + ", 1)", desk.run(kind, 1), 0);
        }
        for (int i : new int[] {Integer.MIN_VALUE, -1, 2, 3, 1000, 1001, Integer.MAX_VALUE}) {
            for (int kind = 0; kind <= 2; kind++) {
                Check.due("run(" + kind + ", " + i + ")", desk.run(kind, i), 0);
            }
        }
        // What an earlier, longer reading left behind the last character is no part of a run.
        CharDesk again = Check.readingCharacters('a', 'b', 'c');
        again.put('x', 1);
        again.read();
        Check.due("run(0, 0) of a shorter text", again.run(0, 0), 1);
        Check.due("run(0, 1) of a shorter text", again.run(0, 1), 0);
    }
}
