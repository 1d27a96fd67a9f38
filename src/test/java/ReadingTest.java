import java.util.Arrays;

/** Promises 4 to 7: read, place, at and placeOf, with the terms READING, PLACE and FAULTS. */
public final class ReadingTest {
    public static void main(String[] args) {
        returnAndLineEndTogether();
        eachOtherReturn();
        lineEndsOfAFullText();
        returnAtTheEndOfAShorterText();
        markAtTheBeginning();
        markElsewhere();
        placesAreFirstBytes();
        brokenSequences();
        charactersThatAreNotAllowed();
        charactersThatAreJustAllowed();
        firstFaultFromTheLeft();
        faultAtTheEnds();
        faultLeavesNothingRead();
        emptyTextIsRead();
        readTakesTheText();
        faultTakesTheText();
        placeWithoutAFault();
        placeStaysUntilTheNextRead();
        atTheEnds();
        placeOfTheEnds();
        shorterTextBehindALongerOne();
        Check.finish();
    }

    private static void read(String what, int[] bytes, int[] characters, int[] places) {
        CharDesk desk = new CharDesk();
        Check.putBytes(desk, bytes);
        Check.due(what + ": read()", desk.read(), characters.length);
        Check.due(what + ": place()", desk.place(), -1);
        Check.characters(what, desk, characters);
        Check.places(what, desk, places);
    }

    private static int[] row(int... numbers) {
        return numbers;
    }

    /** "D and A together .. are one character A" */
    private static void returnAndLineEndTogether() {
        read("D A", row(0xD, 0xA), row(0xA), row(0, 2));
        read("a D A b", row(0x61, 0xD, 0xA, 0x62), row(0x61, 0xA, 0x62), row(0, 1, 3, 4));
        read("D A D A", row(0xD, 0xA, 0xD, 0xA), row(0xA, 0xA), row(0, 2, 4));
        read("D A A", row(0xD, 0xA, 0xA), row(0xA, 0xA), row(0, 2, 3));
        read("A A", row(0xA, 0xA), row(0xA, 0xA), row(0, 1, 2));
        read("D, 10A", row(0xD, 0xC4, 0x8A), row(0xA, 0x10A), row(0, 1, 3));
    }

    /** "and each other D" */
    private static void eachOtherReturn() {
        read("D", row(0xD), row(0xA), row(0, 1));
        read("D a D", row(0xD, 0x61, 0xD), row(0xA, 0x61, 0xA), row(0, 1, 2, 3));
        read("D D", row(0xD, 0xD), row(0xA, 0xA), row(0, 1, 2));
        read("D D A A", row(0xD, 0xD, 0xA, 0xA), row(0xA, 0xA, 0xA), row(0, 1, 3, 4));
        read("A D", row(0xA, 0xD), row(0xA, 0xA), row(0, 1, 2));
        read("A D A", row(0xA, 0xD, 0xA), row(0xA, 0xA), row(0, 1, 3));
        read("D 20 A", row(0xD, 0x20, 0xA), row(0xA, 0x20, 0xA), row(0, 1, 2, 3));
        // 40D ends in the digits of D, but in no byte D.
        read("40D A", row(0xD0, 0x8D, 0xA), row(0x40D, 0xA), row(0, 2, 3));
    }

    private static void lineEndsOfAFullText() {
        CharDesk pairs = new CharDesk();
        CharDesk returns = new CharDesk();
        for (int k = 0; k < 125; k++) {
            Check.due("put", pairs.put(0x0D0A0D0A0D0A0D0AL, 8), true);
            Check.due("put", returns.put(0x0D0D0D0D0D0D0D0DL, 8), true);
        }
        Check.due("500 times D A: read()", pairs.read(), 500);
        Check.due("500 times D A: at(499)", pairs.at(499), 0xA);
        Check.due("500 times D A: at(500)", pairs.at(500), -1);
        Check.due("500 times D A: placeOf(499)", pairs.placeOf(499), 998);
        Check.due("500 times D A: placeOf(500)", pairs.placeOf(500), 1000);
        Check.due("500 times D A: placeOf(501)", pairs.placeOf(501), -1);
        Check.due("1000 times D: read()", returns.read(), 1000);
        Check.due("1000 times D: at(999)", returns.at(999), 0xA);
        Check.due("1000 times D: placeOf(999)", returns.placeOf(999), 999);
    }

    /** What an earlier text had behind the D is not together with it. */
    private static void returnAtTheEndOfAShorterText() {
        CharDesk desk = Check.reading(0x61, 0xD, 0xA);
        Check.putBytes(desk, 0x62, 0xD);
        Check.due("b D behind a D A: read()", desk.read(), 2);
        Check.characters("b D behind a D A", desk, 0x62, 0xA);
        Check.places("b D behind a D A", desk, 0, 1, 2);
        Check.putBytes(desk, 0xA);
        Check.due("A, the D was the text before: read()", desk.read(), 1);
        Check.places("A, the D was the text before", desk, 0, 1);
    }

    /** "if its first character is FEFF that is left out" */
    private static void markAtTheBeginning() {
        read("FEFF", row(0xEF, 0xBB, 0xBF), row(), row(3));
        read("FEFF a", row(0xEF, 0xBB, 0xBF, 0x61), row(0x61), row(3, 4));
        read("FEFF A", row(0xEF, 0xBB, 0xBF, 0xA), row(0xA), row(3, 4));
        read("FEFF D A", row(0xEF, 0xBB, 0xBF, 0xD, 0xA), row(0xA), row(3, 5));
        Check.fault("FEFF and 80", 1, 3, 0xEF, 0xBB, 0xBF, 0x80);
        Check.fault("FEFF and FFFE", 2, 3, 0xEF, 0xBB, 0xBF, 0xEF, 0xBF, 0xBE);
        Check.fault("FEFF cut off", 1, 0, 0xEF, 0xBB);
        Check.fault("the bytes FE FF", 1, 0, 0xFE, 0xFF);
        // Each text has its own first character.
        CharDesk desk = Check.readingCharacters(0x61);
        Check.due("character(FEFF)", desk.character(0xFEFF), true);
        Check.due("character(62)", desk.character(0x62), true);
        Check.due("second text: read()", desk.read(), 1);
        Check.characters("second text", desk, 0x62);
        Check.places("second text", desk, 3, 4);
    }

    private static void markElsewhere() {
        int mark = 0xFEFF;
        read("FEFF FEFF", row(0xEF, 0xBB, 0xBF, 0xEF, 0xBB, 0xBF), row(mark), row(3, 6));
        read("a FEFF", row(0x61, 0xEF, 0xBB, 0xBF), row(0x61, mark), row(0, 1, 4));
        read("D FEFF", row(0xD, 0xEF, 0xBB, 0xBF), row(0xA, mark), row(0, 1, 4));
        read("D FEFF A", row(0xD, 0xEF, 0xBB, 0xBF, 0xA), row(0xA, mark, 0xA), row(0, 1, 4, 5));
        // FFFE, the mark's bytes turned round, is not left out.
        Check.fault("FFFE a", 2, 0, 0xEF, 0xBF, 0xBE, 0x61);
    }

    /** "The PLACE of a character is that of its first byte, counted from 0." */
    private static void placesAreFirstBytes() {
        CharDesk desk = Check.readingCharacters(0x10FFFF, 0x7F, 0x80, 0x800, 0x10000, 0x61);
        Check.places("4 1 2 3 4 1", desk, 0, 4, 5, 7, 10, 14, 15);
    }

    /** "bytes that are no character (at the first byte of what is none ..)" */
    private static void brokenSequences() {
        Check.fault("two bytes, broken by a first byte", 1, 0, 0xC3, 0xC3, 0xA9);
        Check.fault("three bytes, broken at the second", 1, 0, 0xE2, 0x61, 0xAC);
        Check.fault("three bytes, broken at the third", 1, 0, 0xE2, 0x82, 0x61);
        Check.fault("four bytes, broken at the fourth", 1, 0, 0xF0, 0x9F, 0x98, 0xC0);
        Check.fault("broken behind others", 1, 3, 0x61, 0xC3, 0xA9, 0xE2, 0x82, 0x61);
        Check.fault("a follower too many", 1, 2, 0xC3, 0xA9, 0xA9);
    }

    /** "2 a character that is not allowed" */
    private static void charactersThatAreNotAllowed() {
        for (int c = 0; c < 0x20; c++) {
            if (c != 9 && c != 0xA && c != 0xD) {
                Check.fault("not allowed", 2, 1, 0x61, c);
            }
        }
        Check.fault("FFFE", 2, 2, 0xC3, 0xA9, 0xEF, 0xBF, 0xBE);
        Check.fault("FFFF", 2, 0, 0xEF, 0xBF, 0xBF);
    }

    private static void charactersThatAreJustAllowed() {
        int[] edges = {0x9, 0x20, 0x7F, 0x80, 0xD7FF, 0xE000, 0xFDD0, 0xFFFD, 0x10000, 0x1FFFE, 0x1FFFF, 0x10FFFF};
        Check.characters("just allowed", Check.readingCharacters(edges), edges);
    }

    /** "FAULTS, the first from the left" */
    private static void firstFaultFromTheLeft() {
        Check.fault("2 before 1", 2, 1, 0x61, 0x0, 0x80);
        Check.fault("1 before 2", 1, 1, 0x61, 0x80, 0x0);
        Check.fault("2 right before 1", 2, 0, 0x1F, 0xFF);
        Check.fault("a sequence that is broken by what is not allowed", 1, 0, 0xC3, 0x0);
        Check.fault("1 twice", 1, 1, 0x61, 0xE2, 0x0, 0xFF);
        Check.fault("2 twice", 2, 1, 0x61, 0x1, 0x2);
        Check.fault("behind line ends", 2, 4, 0xD, 0xA, 0xD, 0xA, 0x1);
    }

    private static void faultAtTheEnds() {
        Check.fault("1 at the first byte", 1, 0, 0xFF, 0x61);
        Check.fault("2 at the first byte", 2, 0, 0x0, 0x61);
        for (int b : new int[] {0x0, 0xC3, 0xFF}) {
            CharDesk desk = new CharDesk();
            Check.fill(desk, 999);
            Check.putBytes(desk, b);
            Check.due("fault at the last byte: read()", desk.read(), b == 0 ? -3 : -2);
            Check.due("fault at the last byte: place()", desk.place(), 999);
            Check.nothingRead("fault at the last byte", desk);
        }
    }

    /** "or -1 - its fault; then nothing is read" */
    private static void faultLeavesNothingRead() {
        for (int b : new int[] {0x0, 0xFF}) {
            CharDesk desk = Check.readingCharacters(0x61, 0x62);
            Check.putBytes(desk, 0x61, 0x62, 0x63, b);
            Check.due("fault behind a reading: read()", desk.read(), b == 0 ? -3 : -2);
            Check.due("fault behind a reading: place()", desk.place(), 3);
            Check.nothingRead("fault behind a reading", desk);
        }
    }

    private static void emptyTextIsRead() {
        CharDesk desk = new CharDesk();
        Check.due("empty: read()", desk.read(), 0);
        Check.characters("empty", desk);
        Check.places("empty", desk, 0);
        Check.due("empty: place()", desk.place(), -1);
        Check.due("empty: run(2, 0)", desk.run(2, 0), 0);
    }

    /** "The text is read, and has no bytes any more" */
    private static void readTakesTheText() {
        CharDesk desk = Check.readingCharacters(0x61, 0x62);
        Check.due("second read()", desk.read(), 0);
        Check.characters("second read()", desk);
        Check.places("second read()", desk, 0);
        Check.putBytes(desk, 0x63);
        Check.due("third read()", desk.read(), 1);
        Check.characters("third read()", desk, 0x63);
        Check.places("third read()", desk, 0, 1);
    }

    private static void faultTakesTheText() {
        for (int b : new int[] {0x0, 0xC3, 0xFF}) {
            CharDesk desk = new CharDesk();
            Check.putBytes(desk, 0x61, b);
            Check.due("read() of a fault", desk.read() < -1, true);
            Check.putBytes(desk, 0x78, 0x79);
            Check.due("read() behind a fault", desk.read(), 2);
            Check.due("place() behind a fault", desk.place(), -1);
            Check.characters("behind a fault", desk, 0x78, 0x79);
            Check.places("behind a fault", desk, 0, 1, 2);
        }
        // The first half of a character is gone with its text, and no text's bytes come behind it.
        CharDesk halves = new CharDesk();
        Check.putBytes(halves, 0xC3);
        Check.due("first half: read()", halves.read(), -2);
        Check.putBytes(halves, 0xA9);
        Check.due("second half: read()", halves.read(), -2);
        Check.due("second half: place()", halves.place(), 0);
    }

    /** "-1 if it had none, or there was none" */
    private static void placeWithoutAFault() {
        Check.due("none was read: place()", new CharDesk().place(), -1);
        CharDesk unread = new CharDesk();
        Check.putBytes(unread, 0x61, 0xFF);
        Check.due("a fault that is not read yet: place()", unread.place(), -1);
        Check.due("no fault: place()", Check.reading(0x61).place(), -1);
        Check.due("FEFF alone: place()", Check.reading(0xEF, 0xBB, 0xBF).place(), -1);
        CharDesk empty = Check.reading(0x61, 0xFF);
        Check.due("fault: place()", empty.place(), 1);
        Check.due("empty text behind a fault: read()", empty.read(), 0);
        Check.due("empty text behind a fault: place()", empty.place(), -1);
        Check.due("empty text behind a fault: placeOf(0)", empty.placeOf(0), 0);
    }

    /** "of the last text that was read" */
    private static void placeStaysUntilTheNextRead() {
        CharDesk desk = Check.reading(0x61, 0x62, 0x63, 0xFF);
        Check.due("fault: place()", desk.place(), 3);
        Check.due("asked again: place()", desk.place(), 3);
        Check.putBytes(desk, 0x61);
        Check.due("new bytes: place()", desk.place(), 3);
        Check.due("character(0)", desk.character(0), true);
        Check.due("new character: place()", desk.place(), 3);
        Check.due("next fault: read()", desk.read(), -3);
        Check.due("next fault: place()", desk.place(), 1);
    }

    /** "-1 if there is none" */
    private static void atTheEnds() {
        CharDesk desk = Check.readingCharacters(0x61, 0x62, 0x63);
        Check.due("at(0)", desk.at(0), 0x61);
        Check.due("at(2)", desk.at(2), 0x63);
        int[] none = {Check.LEAST, Check.LEAST + 1, -1001, -1, 3, 4, 999, 1000, 1001, 256, 1 << 16, Check.MOST};
        for (int i : none) {
            Check.due("at(" + i + ")", desk.at(i), -1);
        }
    }

    /** "for i = how many there are the text's length ..; -1 otherwise" */
    private static void placeOfTheEnds() {
        CharDesk desk = Check.readingCharacters(0x61, 0xE9, 0x20AC);
        Check.due("placeOf(0)", desk.placeOf(0), 0);
        Check.due("placeOf(2)", desk.placeOf(2), 3);
        Check.due("placeOf(3)", desk.placeOf(3), 6);
        int[] none = {Check.LEAST, Check.LEAST + 1, -1001, -1, 4, 5, 6, 999, 1000, 1001, 256, 1 << 16, Check.MOST};
        for (int i : none) {
            Check.due("placeOf(" + i + ")", desk.placeOf(i), -1);
        }
        Check.due("nothing read: placeOf(0)", new CharDesk().placeOf(0), -1);
        Check.due("a fault: placeOf(0)", Check.reading(0x61, 0xFF).placeOf(0), -1);
        Check.due("a fault: placeOf(1)", Check.reading(0x61, 0xFF).placeOf(1), -1);
        Check.due("a fault: placeOf(2)", Check.reading(0x61, 0xFF).placeOf(2), -1);
    }

    private static void shorterTextBehindALongerOne() {
        int[] many = new int[100];
        Arrays.fill(many, 0x61);
        CharDesk desk = Check.readingCharacters(many);
        Check.putBytes(desk, 0x62, 0x63);
        Check.due("shorter: read()", desk.read(), 2);
        for (int i = 2; i <= 101; i++) {
            Check.due("shorter: at(" + i + ")", desk.at(i), -1);
            Check.due("shorter: placeOf(" + i + ")", desk.placeOf(i), i == 2 ? 2 : -1);
        }
    }
}
