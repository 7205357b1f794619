/** Promises 1 to 5: a new object, the tape, the text and its faults. */
final class TextTest {
    private static final String HEAD = "chamber meanings 4 law first bar 20 dies 2;";
    private static final String SEAT = HEAD + "district seats 3;";
    private static final Due DUE = new Due();

    public static void main(String[] args) {
        newObject();
        feeding();
        ending();
        texts();
        faultsOfOne();
        faultsOfTwo();
        faultsOfThree();
        faultsOfPlaces();
        allStaysAtFault();
        DUE.close();
    }

    private static void newObject() {
        WordSeats x = new WordSeats();
        for (int what = 0; what < 12; what++) {
            DUE.is("new: count(" + what + ")", 0, x.count(what));
        }
        DUE.is("new: fault(0)", 0, x.fault(0));
        DUE.is("new: fault(1)", -1, x.fault(1));
        DUE.is("new: fault(2)", -1, x.fault(2));
        DUE.is("new: fault(-1)", -1, x.fault(-1));
        DUE.is("new: elected()", -2, x.elected());
        DUE.is("NONE", -1, WordSeats.NONE);
    }

    private static void feeding() {
        WordSeats x = new WordSeats();
        for (int i = 1; i <= 80; i++) {
            DUE.is("feed " + i, 20 * i, x.feed(0x20202020, 0x20202020, 0x20202020, 0x20202020, 0x20202020));
        }
        DUE.is("feed 81", -1, x.feed(1, 2, 3, 4, 5));
        DUE.is("full: count(10)", 1600, x.count(10));
        DUE.is("end(1581)", 1581, x.end(1581));
        DUE.is("feed, 19 left", -1, x.feed(0, 0, 0, 0, 0));
        DUE.is("19 left: count(10)", 1581, x.count(10));
        DUE.is("end(1580)", 1580, x.end(1580));
        DUE.is("feed, 20 left", 1600, x.feed(0x0a0a0a0a, 0x0a0a0a0a, 0x0a0a0a0a, 0x0a0a0a0a, 0x0a0a0a0a));
        DUE.is("blanks: chamber()", 0, x.chamber());
        DUE.is("blanks: count(10)", 0, x.count(10));
        // "chamber meanings 2 law first bar 0 dies 1;", the highest byte first
        x.feed(0x6368616d, 0x62657220, 0x6d65616e, 0x696e6773, 0x2032206c);
        x.feed(0x61772066, 0x69727374, 0x20626172, 0x20302064, 0x69657320);
        x.feed(0x313b0000, 0, 0, 0, 0);
        DUE.is("end(42)", 42, x.end(42));
        DUE.is("by hand: chamber()", 1, x.chamber());
        DUE.is("by hand: count(0)", 2, x.count(0));
    }

    private static void ending() {
        WordSeats x = new WordSeats();
        DUE.is("end(0)", 0, x.end(0));
        DUE.is("end(1)", -1, x.end(1));
        x.feed(0, 0, 0, 0, 0);
        DUE.is("end(21)", -1, x.end(21));
        DUE.is("end(-1)", -1, x.end(-1));
        DUE.is("end(MIN)", -1, x.end(Integer.MIN_VALUE));
        DUE.is("refused: count(10)", 20, x.count(10));
        DUE.is("end(20)", 20, x.end(20));
        DUE.is("end(7)", 7, x.end(7));
        DUE.is("end(8)", -1, x.end(8));
        DUE.is("cut: count(10)", 7, x.count(10));
    }

    private static void texts() {
        WordSeats x = new WordSeats();
        told(x, 1, HEAD);
        told(x, 3, SEAT + "district\nseats\n9;");
        told(x, 1, "\n chamber meanings 008law approve bar100dies 9 ; \n ");
        DUE.is("count(0)", 8, x.count(0));
        DUE.is("count(1)", 3, x.count(1));
        DUE.is("count(2)", 100, x.count(2));
        DUE.is("count(3)", 9, x.count(3));
        told(x, 1, "chamber meanings 1 law strike bar 0 dies 1;");
        DUE.is("count(1)", 2, x.count(1));
        told(x, 1, "chamber meanings 1 law runoff bar 0 dies 1;");
        DUE.is("count(1)", 1, x.count(1));
        told(x, 20, Texts.LAWS);
        DUE.is("count(0)", 6, x.count(0));
        DUE.is("count(1)", 0, x.count(1));
        DUE.is("count(4)", 2, x.count(4));
        DUE.is("count(5)", 8, x.count(5));
        DUE.is("count(6)", 7, x.count(6));
        DUE.is("count(7)", 2, x.count(7));
        DUE.is("count(9)", 20, x.count(9));
        x.term();
        DUE.is("count(8)", 1, x.count(8));
        told(x, 20, Texts.LAWS);
        DUE.is("told anew: count(8)", 0, x.count(8));
        DUE.is("told anew: sitting()", 0, x.sitting());
        DUE.is("told anew: word(1, 4)", 0, x.word(1, 4));
        told(x, 0, "");
        DUE.is("nothing told: count(9)", 0, x.count(9));
        DUE.is("nothing told: sitting()", -2, x.sitting());
        told(x, 30, SEAT + "district seats 3;".repeat(3) + "word letters 1 in 3 party 3 means 3;".repeat(9)
            + "speaker in 3 votes 99 comes 0 needs 0;".repeat(9) + "round 0 by 1 and 1;".repeat(7));
    }

    private static void told(WordSeats x, int lines, String text) {
        DUE.is("end of " + text, text.length(), Due.tell(x, text));
        DUE.is("chamber() of " + text, lines, x.chamber());
        DUE.is("fault(0) of " + text, 0, x.fault(0));
        DUE.is("fault(1) of " + text, -1, x.fault(1));
        DUE.is("count(10) behind " + text, 0, x.count(10));
    }

    private static void faulty(int fault, int place, String text) {
        WordSeats x = new WordSeats();
        Due.tell(x, text);
        DUE.is("chamber() of " + text, -4, x.chamber());
        DUE.is("fault(0) of " + text, fault, x.fault(0));
        DUE.is("fault(1) of " + text, place, x.fault(1));
    }

    private static void faultsOfOne() {
        faulty(1, 0, "district seats 3;");
        faulty(1, 0, ";");
        faulty(1, 0, "7");
        faulty(1, 2, " \n#");
        faulty(1, 0, "chambers meanings 4 law first bar 20 dies 2;");
        faulty(1, 0, "Chamber meanings 4 law first bar 20 dies 2;");
        faulty(1, 7, "chamber\tmeanings 4 law first bar 20 dies 2;");
        faulty(1, 23, "chamber meanings 4 law most bar 20 dies 2;");
        faulty(1, 23, "chamber meanings 4 law 0 bar 20 dies 2;");
        faulty(1, 17, "chamber meanings law first bar 20 dies 2;");
        faulty(1, 17, "chamber meanings -1 law first bar 20 dies 2;");
        faulty(1, 43, HEAD + HEAD);
        faulty(1, 43, HEAD + ";");
        faulty(1, 43, HEAD + "9");
        faulty(1, 43, HEAD + "seats 3;");
        faulty(1, 43, HEAD + "districtz seats 3;");
        faulty(1, 43, HEAD + "adistrict seats 3;");
        faulty(1, 60, SEAT + "cord letters 3 in 0 party 0 means 0;");
        faulty(1, 60, SEAT + "work letters 3 in 0 party 0 means 0;");
        faulty(1, 43, HEAD + "{district seats 3;");
        faulty(1, 58, HEAD + "district seats /3;");
        faulty(1, 58, HEAD + "district seats :3;");
        faulty(1, 43, HEAD + (char) 233);
        faulty(1, 43, HEAD + (char) 0);
        faulty(1, 60, HEAD + "district seats 3 4;");
        faulty(1, 61, HEAD + "district seats 3 ;;");
        faulty(1, 94, SEAT + "word letters 3 in 0 party 0 means ;");
        faulty(1, 95, SEAT + "word letters 3 in 0 party 0 means 1,2;");
        faulty(1, 54, HEAD + "round 0 by and 1;");
        faulty(1, 56, HEAD + "round 0 by 1 or 1;");
        faulty(1, 62, HEAD + "round 0 by 1 and 2 ,");
    }

    private static void faultsOfTwo() {
        faulty(2, 17, "chamber meanings 0");
        faulty(2, 17, "chamber meanings 9");
        faulty(2, 17, "chamber meanings 4294967300 law first bar 20 dies 2;");
        faulty(2, 33, "chamber meanings 4 law first bar 101");
        faulty(2, 41, "chamber meanings 4 law first bar 20 dies 0;");
        faulty(2, 42, "chamber meanings 4 law first bar 100 dies 10;");
        faulty(2, 58, HEAD + "district seats 0");
        faulty(2, 58, HEAD + "district seats 10");
        faulty(2, 61, HEAD + "word letters 3 in 0");
        faulty(2, 73, SEAT + "word letters 0");
        faulty(2, 73, SEAT + "word letters 13");
        faulty(2, 78, SEAT + "word letters 3 in 1 party 0 means 0;");
        faulty(2, 86, SEAT + "word letters 3 in 0 party 4");
        faulty(2, 94, SEAT + "word letters 3 in 0 party 0 means 4");
        faulty(2, 98, SEAT + "word letters 3 in 0 party 0 means 3 3 4;");
        faulty(2, 71, SEAT + "speaker in 1");
        faulty(2, 79, SEAT + "speaker in 0 votes 0");
        faulty(2, 79, SEAT + "speaker in 0 votes 100");
        faulty(2, 87, SEAT + "speaker in 0 votes 1 comes 101");
        faulty(2, 95, SEAT + "speaker in 0 votes 1 comes 0 needs 4");
        faulty(2, 49, HEAD + "round 4");
        faulty(2, 54, HEAD + "round 0 by 0");
        faulty(2, 60, HEAD + "round 0 by 1 and 0");
        faulty(2, 60, HEAD + "round 0 by 1 and 4");
    }

    private static void faultsOfThree() {
        faulty(3, 111, HEAD + "district seats 3;".repeat(5));
        faulty(3, 384, SEAT + "word letters 3 in 0 party 0 means 0;".repeat(10));
        faulty(3, 411, SEAT + "speaker in 0 votes 1 comes 100 needs 0;".repeat(10));
        faulty(3, 195, HEAD + "round 0 by 1 and 2;".repeat(9));
        faulty(3, 111, HEAD + "district seats 3;".repeat(4) + "district;");
    }

    /** The end's place is behind all bytes, blanks too; of several faults the first counts. */
    private static void faultsOfPlaces() {
        faulty(1, 7, "chamber");
        faulty(1, 10, "chamber \n ");
        faulty(1, 42, "chamber meanings 4 law first bar 20 dies 2");
        faulty(1, 51, HEAD + "district");
        faulty(1, 95, SEAT + "word letters 3 in 0 party 0 means 0");
        faulty(2, 17, "chamber meanings 9 law most bar 101 #");
        faulty(1, 23, "chamber meanings 4 law most bar 101 #");
    }

    private static void allStaysAtFault() {
        WordSeats x = Due.chamber(SEAT + "word letters 3 in 0 party 0 means 0;speaker in 0 votes 2 comes 9 needs 0;");
        x.term();
        Due.tell(x, HEAD + "district seats 4;district seats 0;");
        DUE.is("chamber()", -4, x.chamber());
        DUE.is("fault(0)", 2, x.fault(0));
        DUE.is("fault(1)", 75, x.fault(1));
        DUE.is("the tape stays", 77, x.count(10));
        DUE.is("its lines stay", 4, x.count(9));
        DUE.is("its seats stay", 3, x.district(0, 0));
        DUE.is("its terms stay", 1, x.count(8));
        DUE.is("who sits stays", 1, x.sitting());
        x.end(75);
        Due.tell(x, "5;");
        DUE.is("mended: chamber()", 3, x.chamber());
        DUE.is("mended: fault(0)", 0, x.fault(0));
        DUE.is("mended: fault(1)", -1, x.fault(1));
        DUE.is("mended: district(1, 0)", 5, x.district(1, 0));
        DUE.is("mended: count(8)", 0, x.count(8));
    }
}
