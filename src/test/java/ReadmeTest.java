/** The calls that README.md shows, with the answers that it tells. */
public final class ReadmeTest {
    public static void main(String[] args) {
        CharDesk desk = new CharDesk();
        example(desk);
        exampleOfAFault(desk);
        Check.finish();
    }

    private static void example(CharDesk desk) {
        Check.due("put", desk.put(0x610D0AL, 3), true);
        Check.due("character", desk.character(0x20AC), true);
        Check.due("read()", desk.read(), 3);
        Check.due("at(1)", desk.at(1), 0xA);
        Check.due("placeOf(2)", desk.placeOf(2), 3);
        Check.due("placeOf(3)", desk.placeOf(3), 6);
        Check.due("run(0, 0)", desk.run(0, 0), 1);
        Check.due("compare(0, 1, 1)", desk.compare(0, 1, 1), 1);
        Check.due("kind('a')", desk.kind('a'), 13);
        Check.due("bytes(E9)", desk.bytes(0xE9), 0x02C3A90000000000L);
    }

    private static void exampleOfAFault(CharDesk desk) {
        Check.due("put", desk.put(0x6162C3L, 3), true);
        Check.due("read()", desk.read(), -2);
        Check.due("place()", desk.place(), 2);
        Check.due("at(0)", desk.at(0), -1);
    }
}
