/** Promises 4 to 7: read, place, at and placeOf. */
public final class ReadingTest {
    public static void main(String[] args) {
        lineEnds();
        markAtTheBeginning();
        brokenSequences();
        charactersThatAreNotAllowed();
        firstFaultFromTheLeft();
        faultForgetsTheReading();
        readTakesTheText();
        farIndexes();
        Check.finish();
    }

    private static void lineEnds() {
        CharDesk pair = Check.reading(0x61, 0xD, 0xA, 0x62);
        Check.characters("D A", pair, 0x61, 0xA, 0x62);
        Check.places("D A", pair, 0, 1, 3, 4);
        CharDesk alone = Check.reading(0xD, 0x61, 0xD);
        Check.characters("D alone", alone, 0xA, 0x61, 0xA);
        Check.places("D alone", alone, 0, 1, 2, 3);
        CharDesk twice = Check.reading(0xD, 0xD, 0xA, 0xA);
        Check.characters("D D A A", twice, 0xA, 0xA, 0xA);
        Check.places("D D A A", twice, 0, 1, 3, 4);
        CharDesk turned = Check.reading(0xA, 0xD, 0xA);
        Check.characters("A D A", turned, 0xA, 0xA);
        Check.places("A D A", turned, 0, 1, 3);
        CharDesk atTheEnd = Check.reading(0xD, 0xA);
        Check.characters("D A only", atTheEnd, 0xA);
        Check.places("D A only", atTheEnd, 0, 2);
        // 40D ends in the digits of D, but in no byte D.
        CharDesk like = Check.reading(0xD0, 0x8D, 0xA, 0xC4, 0x8A);
        Check.characters("40D A 10A", like, 0x40D, 0xA, 0x10A);
        Check.places("40D A 10A", like, 0, 2, 3, 5);
    }

    private static void markAtTheBeginning() {
        CharDesk marked = Check.reading(0xEF, 0xBB, 0xBF, 0x61, 0xEF, 0xBB, 0xBF);
        Check.characters("FEFF a FEFF", marked, 0x61, 0xFEFF);
        Check.places("FEFF a FEFF", marked, 3, 4, 7);
        CharDesk twice = Check.reading(0xEF, 0xBB, 0xBF, 0xEF, 0xBB, 0xBF);
        Check.characters("FEFF FEFF", twice, 0xFEFF);
        Check.places("FEFF FEFF", twice, 3, 6);
        CharDesk only = Check.reading(0xEF, 0xBB, 0xBF);
        Check.characters("FEFF", only);
        Check.places("FEFF", only, 3);
        Check.due("FEFF: place()", only.place(), -1);
        Check.due("FEFF: compare(0, 0, 0)", only.compare(0, 0, 0), 0);
        CharDesk behindALine = Check.reading(0xD, 0xEF, 0xBB, 0xBF);
        Check.characters("D FEFF", behindALine, 0xA, 0xFEFF);
        CharDesk beforeALine = Check.reading(0xEF, 0xBB, 0xBF, 0xA, 0xD, 0xA);
        Check.characters("FEFF A D A", beforeALine, 0xA, 0xA);
        Check.places("FEFF A D A", beforeALine, 3, 4, 6);
        fault("FEFF and a fault", 1, 3, 0xEF, 0xBB, 0xBF, 0x80);
    }

    private static void brokenSequences() {
        for (int first = 0x80; first <= 0xBF; first++) {
            fault("follower alone", 1, 1, 0x61, first);
        }
        for (int first = 0xF8; first <= 0xFF; first++) {
            fault("no first byte", 1, 0, first, 0x80, 0x80, 0x80, 0x80, 0x80);
        }
        fault("two bytes, too short", 1, 2, 0x61, 0x62, 0xC3);
        fault("three bytes, too short", 1, 1, 0x61, 0xE2, 0x82);
        fault("four bytes, too short", 1, 1, 0x61, 0xF0, 0x9F, 0x98);
        fault("two bytes, broken", 1, 1, 0x61, 0xC3, 0x61);
        fault("two bytes, broken by a first byte", 1, 0, 0xC3, 0xC3, 0xA9);
        fault("three bytes, broken at the second", 1, 0, 0xE2, 0x61, 0xAC);
        fault("three bytes, broken at the third", 1, 0, 0xE2, 0x82, 0x61);
        fault("four bytes, broken at the fourth", 1, 0, 0xF0, 0x9F, 0x98, 0xC0);
        fault("too long for 0", 1, 0, 0xC0, 0x80);
        fault("too long for 7F", 1, 0, 0xC1, 0xBF);
        fault("too long for 7FF", 1, 0, 0xE0, 0x9F, 0xBF);
        fault("too long for FFFF", 1, 0, 0xF0, 0x8F, 0xBF, 0xBF);
        fault("D800", 1, 1, 0x61, 0xED, 0xA0, 0x80);
        fault("DFFF", 1, 1, 0x61, 0xED, 0xBF, 0xBF);
        fault("110000", 1, 0, 0xF4, 0x90, 0x80, 0x80);
        fault("1FFFFF", 1, 0, 0xF7, 0xBF, 0xBF, 0xBF);
        CharDesk full = new CharDesk();
        Check.fill(full, 999);
        full.put(0xC3L, 1);
        Check.due("too short at the limit: read()", full.read(), -2);
        Check.due("too short at the limit: place()", full.place(), 999);
    }

    private static void charactersThatAreNotAllowed() {
        for (int c = 0; c < 0x20; c++) {
            if (c != 9 && c != 0xA && c != 0xD) {
                fault("not allowed", 2, 1, 0x61, c);
            }
        }
        fault("FFFE", 2, 2, 0xC3, 0xA9, 0xEF, 0xBF, 0xBE);
        fault("FFFF", 2, 0, 0xEF, 0xBF, 0xBF);
        Check.characters("7F and 80", Check.reading(0x7F, 0xC2, 0x80), 0x7F, 0x80);
        Check.characters("1FFFF", Check.reading(0xF0, 0x9F, 0xBF, 0xBF), 0x1FFFF);
    }

    private static void firstFaultFromTheLeft() {
        fault("2 before 1", 2, 1, 0x61, 0x0, 0x80);
        fault("1 before 2", 1, 1, 0x61, 0x80, 0x0);
        fault("1 twice", 1, 1, 0x61, 0xE2, 0x0, 0xFF);
        fault("behind line ends", 2, 4, 0xD, 0xA, 0xD, 0xA, 0x1);
    }

    private static void fault(String what, int fault, int place, int... bytes) {
        CharDesk desk = new CharDesk();
        Check.putBytes(desk, bytes);
        Check.due(what + ": read()", desk.read(), -1 - fault);
        Check.due(what + ": place()", desk.place(), place);
        Check.nothingRead(what, desk);
    }

    private static void faultForgetsTheReading() {
        CharDesk desk = Check.readingCharacters(0x61, 0x62);
        Check.putBytes(desk, 0x61, 0x62, 0x63, 0xFF);
        Check.due("before the fault is read: place()", desk.place(), -1);
        Check.due("fault behind a reading: read()", desk.read(), -2);
        Check.due("fault behind a reading: place()", desk.place(), 3);
        Check.nothingRead("fault behind a reading", desk);
        Check.putBytes(desk, 0x78);
        Check.due("new bytes: place()", desk.place(), 3);
        Check.due("reading behind a fault: read()", desk.read(), 1);
        Check.due("reading behind a fault: place()", desk.place(), -1);
        Check.characters("reading behind a fault", desk, 0x78);
        Check.places("reading behind a fault", desk, 0, 1);
    }

    private static void readTakesTheText() {
        CharDesk desk = Check.readingCharacters(0x61, 0x62);
        Check.due("second read()", desk.read(), 0);
        Check.characters("second read()", desk);
        Check.places("second read()", desk, 0);
        Check.due("second read(): place()", desk.place(), -1);
        Check.putBytes(desk, 0xFF);
        Check.due("read() of a fault", desk.read(), -2);
        Check.due("read() behind a fault", desk.read(), 0);
        Check.due("read() behind a fault: place()", desk.place(), -1);
        Check.due("read() behind a fault: placeOf(0)", desk.placeOf(0), 0);
    }

    private static void farIndexes() {
        CharDesk desk = Check.readingCharacters(0x61);
        for (int i : new int[] {Integer.MIN_VALUE, -1001, 999, 1000, 1001, Integer.MAX_VALUE}) {
            Check.due("at(" + i + ")", desk.at(i), -1);
            Check.due("placeOf(" + i + ")", desk.placeOf(i), -1);
        }
    }
}
