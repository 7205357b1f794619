import java.math.BigInteger;

/** Term I and promises 1 to 5: the text, its tokens and faults; a new object and the tape. */
final class TextTest {
    private static final String HEAD = "chamber meanings 4 law first bar 20 dies 2;";
    private static final String SEAT = HEAD + "district seats 3;";
    private static final String WORD = "word letters 3 in 0 party 0 means 0;";
    private static final String SPEAKER = "speaker in 0 votes 2 comes 9 needs 0;";

    public static void main(String[] args) {
        Suite.run(TextTest.class);
    }

    /** A text that is a CHAMBER, told to an object of its own. */
    private static WordSeats told(Due due, int lines, String text) {
        WordSeats x = new WordSeats();
        due.is("end of " + text, text.length(), Due.tell(x, text));
        due.is("chamber() of " + text, lines, x.chamber());
        due.is("fault(0) of " + text, 0, x.fault(0));
        due.is("fault(1) of " + text, -1, x.fault(1));
        return x;
    }

    private static void faulty(Due due, int fault, int place, String text) {
        WordSeats x = new WordSeats();
        Due.tell(x, text);
        due.is("chamber() of " + text, -4, x.chamber());
        due.is("fault(0) of " + text, fault, x.fault(0));
        due.is("fault(1) of " + text, place, x.fault(1));
    }

    /** Every TOKEN of a LINE in turn is another word, another kind, no TOKEN at all, and missing with all behind it. */
    private static void form(Due due, String ahead, String... tokens) {
        StringBuilder before = new StringBuilder(ahead);
        for (int i = 0; i < tokens.length; i++) {
            int place = before.length();
            faulty(due, 1, place, before + "zebra");
            faulty(due, 1, place, before + "#");
            if (!tokens[i].equals(";")) faulty(due, 1, place, before + (Character.isDigit(tokens[i].charAt(0)) ? ";" : "1"));
            if (i > 0) faulty(due, 1, place, before.toString());
            before.append(tokens[i]).append(' ');
        }
        told(due, ahead.split(";").length - (ahead.isEmpty() ? 1 : 0) + 1, before.toString());
    }

    /** The least and the greatest may stand there, those beyond and what would wrap around to them may not. */
    private static void bounds(Due due, String before, int low, int high, String behind) {
        int lines = (before + behind).split(";").length;
        told(due, lines, before + low + behind);
        told(due, lines, before + high + behind);
        if (low > 0) faulty(due, 2, before.length(), before + (low - 1) + behind);
        faulty(due, 2, before.length(), before + (high + 1) + behind);
        for (int bits = 8; bits <= 64; bits *= 2) {
            BigInteger wrapped = BigInteger.TWO.pow(bits).add(BigInteger.valueOf(low));
            faulty(due, 2, before.length(), before + wrapped + behind);
        }
    }

    // Term I: the text

    @Says("CHAMBER: {LINE ;}.")
    static void termI_everyLineIsClosed(Due due) {
        told(due, 0, "");
        told(due, 1, HEAD);
        told(due, 2, SEAT);
        faulty(due, 1, 42, "chamber meanings 4 law first bar 20 dies 2");
        faulty(due, 1, 43, HEAD + ";");
        faulty(due, 1, 61, SEAT + " ;");
        faulty(due, 1, 60, HEAD + "district seats 3 district seats 4;");
    }

    @Says("LINE: chamber meanings N law LAW bar N dies N")
    static void termI_formOfTheChamber(Due due) {
        form(due, "", "chamber", "meanings", "4", "law", "first", "bar", "20", "dies", "2", ";");
        faulty(due, 1, 43, "chamber meanings 4 law first bar 20 dies 2 2;");
    }

    @Says("district seats N")
    static void termI_formOfADistrict(Due due) {
        form(due, HEAD, "district", "seats", "3", ";");
        faulty(due, 1, 60, HEAD + "district seats 3 4;");
    }

    @Says("word letters N in D party N means M {M}")
    static void termI_formOfAWord(Due due) {
        form(due, SEAT, "word", "letters", "3", "in", "0", "party", "0", "means", "0", ";");
        faulty(due, 1, 94, SEAT + "word letters 3 in 0 party 0 means ;");
        due.is("one: word(0, 3)", 1, told(due, 3, SEAT + WORD).word(0, 3));
        due.is("four: word(0, 3)", 15, told(due, 3, SEAT + "word letters 3 in 0 party 0 means 3 1 0 2;").word(0, 3));
        faulty(due, 1, 96, SEAT + "word letters 3 in 0 party 0 means 1 ,2;");
    }

    @Says("speaker in D votes N comes N needs M {M}")
    static void termI_formOfASpeaker(Due due) {
        form(due, SEAT, "speaker", "in", "0", "votes", "2", "comes", "9", "needs", "0", ";");
        faulty(due, 1, 95, SEAT + "speaker in 0 votes 1 comes 0 needs ;");
        due.is("one: speaker(0, 3)", 1, told(due, 3, SEAT + SPEAKER).speaker(0, 3));
        due.is("three: speaker(0, 3)", 13, told(due, 3, SEAT + "speaker in 0 votes 1 comes 0 needs 2 0 3;").speaker(0, 3));
    }

    @Says("round M by M and M.")
    static void termI_formOfARound(Due due) {
        form(due, HEAD, "round", "0", "by", "1", "and", "2", ";");
        faulty(due, 1, 62, HEAD + "round 0 by 1 and 2 3;");
        faulty(due, 1, 56, HEAD + "round 0 by 1 or 2;");
    }

    @Says("chamber is the first LINE")
    static void termI_chamberIsTheFirstLine(Due due) {
        for (String line : new String[] {"district seats 3;", WORD, SPEAKER, "round 0 by 1 and 2;", ";", "7;"}) {
            faulty(due, 1, 0, line + HEAD);
        }
    }

    @Says("and no other:")
    static void termI_chamberIsNoOtherLine(Due due) {
        faulty(due, 1, 43, HEAD + HEAD);
        faulty(due, 1, 60, SEAT + HEAD);
    }

    @Says("meanings 1 .. 8,")
    static void termI_meaningsAre1To8(Due due) {
        bounds(due, "chamber meanings ", 1, 8, " law first bar 20 dies 2;");
    }

    @Says("LAW: first | runoff | strike | approve (0 .. 3),")
    static void termI_lawsByTheirNames(Due due) {
        String[] laws = {"first", "runoff", "strike", "approve"};
        for (int law = 0; law < 4; law++) {
            WordSeats x = told(due, 1, "chamber meanings 4 law " + laws[law] + " bar 20 dies 2;");
            due.is(laws[law] + ": count(1)", law, x.count(1));
        }
        for (String none : new String[] {"most", "0", "firs", "firsts", "bar", ";"}) {
            faulty(due, 1, 23, "chamber meanings 4 law " + none + " bar 20 dies 2;");
        }
    }

    @Says("bar 0 .. 100,")
    static void termI_barIs0To100(Due due) {
        bounds(due, "chamber meanings 4 law first bar ", 0, 100, " dies 2;");
    }

    @Says("dies 1 .. 9.")
    static void termI_diesIs1To9(Due due) {
        bounds(due, "chamber meanings 4 law first bar 20 dies ", 1, 9, ";");
    }

    @Says("seats 1 .. 9.")
    static void termI_seatsAre1To9(Due due) {
        bounds(due, HEAD + "district seats ", 1, 9, ";");
    }

    @Says("letters 1 .. 12,")
    static void termI_lettersAre1To12(Due due) {
        bounds(due, SEAT + "word letters ", 1, 12, " in 0 party 0 means 0;");
    }

    @Says("D a DISTRICT told ahead,")
    static void termI_districtIsToldAhead(Due due) {
        String two = SEAT + "district seats 3;";
        bounds(due, two + "word letters 3 in ", 0, 1, " party 0 means 0;");
        bounds(due, two + "speaker in ", 0, 1, " votes 1 comes 0 needs 0;");
        faulty(due, 2, 61, HEAD + "word letters 3 in 0 party 0 means 0;district seats 3;");
        faulty(due, 2, 54, HEAD + "speaker in 0 votes 1 comes 0 needs 0;district seats 3;");
        faulty(due, 2, 78, SEAT + "word letters 3 in 1 party 0 means 0;district seats 3;");
    }

    @Says("party 0 .. 3,")
    static void termI_partiesAre0To3(Due due) {
        bounds(due, SEAT + "word letters 3 in 0 party ", 0, 3, " means 0;");
    }

    @Says("M 0 .. meanings less 1")
    static void termI_meaningIsBelowMeanings(Due due) {
        bounds(due, SEAT + "word letters 3 in 0 party 0 means ", 0, 3, ";");
        bounds(due, SEAT + "word letters 3 in 0 party 0 means 1 2 ", 0, 3, " 3;");
        bounds(due, SEAT + "speaker in 0 votes 1 comes 0 needs ", 0, 3, ";");
        bounds(due, HEAD + "round ", 0, 3, " by 1 and 2;");
        bounds(due, HEAD + "round 1 by ", 0, 3, " and 2;");
        bounds(due, HEAD + "round 1 by 2 and ", 0, 3, ";");
        faulty(due, 2, 94, SEAT.replace("meanings 4", "meanings 1") + "word letters 3 in 0 party 0 means 1;");
        told(due, 2, "chamber meanings 8 law first bar 20 dies 2;round 7 by 6 and 5;");
    }

    @Says("(like ones count once;")
    static void termI_likeMeaningsCountOnce(Due due) {
        WordSeats x = told(due, 4, SEAT + "word letters 3 in 0 party 0 means 1 1 1;speaker in 0 votes 1 comes 0 needs 1 1 2 1;");
        due.is("word(0, 3)", 2, x.word(0, 3));
        due.is("speaker(0, 3)", 6, x.speaker(0, 3));
        due.is("likes(0, 0)", 1, x.likes(0, 0));
        due.is("cost(0)", 80, x.cost(0));
    }

    @Says("of round: the first unlike the others).")
    static void termI_roundIsUnlikeItsOthers(Due due) {
        faulty(due, 2, 54, HEAD + "round 0 by 0 and 1;");
        faulty(due, 2, 60, HEAD + "round 0 by 1 and 0;");
        faulty(due, 2, 54, HEAD + "round 3 by 3 and 3;");
        told(due, 2, HEAD + "round 0 by 1 and 1;");
    }

    @Says("votes 1 .. 99,")
    static void termI_votesAre1To99(Due due) {
        bounds(due, SEAT + "speaker in 0 votes ", 1, 99, " comes 0 needs 0;");
    }

    @Says("comes 0 .. 100.")
    static void termI_comesIs0To100(Due due) {
        bounds(due, SEAT + "speaker in 0 votes 1 comes ", 0, 100, " needs 0;");
    }

    @Says({"DISTRICTS 0 .. 3,", "are numbered as they stand."})
    static void termI_districtsAreNumberedAsTheyStand(Due due) {
        WordSeats x = told(due, 5, HEAD + "district seats 9;district seats 2;district seats 7;district seats 4;");
        due.row("district(i, 0), i ", Due.ints(9, 2, 7, 4, -2), i -> x.district(i, 0));
    }

    @Says({"WORDS 0 .. 8,", "are numbered as they stand."})
    static void termI_wordsAreNumberedAsTheyStand(Due due) {
        StringBuilder text = new StringBuilder(SEAT);
        for (int letters : new int[] {4, 9, 1, 12, 3, 3, 8, 2, 7}) {
            text.append("word letters ").append(letters).append(" in 0 party 0 means 0;").append(letters == 1 ? SPEAKER : "");
        }
        WordSeats x = told(due, 12, text.toString());
        due.row("word(i, 0), i ", Due.ints(4, 9, 1, 12, 3, 3, 8, 2, 7, -2), i -> x.word(i, 0));
    }

    @Says({"SPEAKERS 0 .. 8,", "are numbered as they stand."})
    static void termI_speakersAreNumberedAsTheyStand(Due due) {
        StringBuilder text = new StringBuilder(SEAT);
        for (int votes : new int[] {40, 9, 1, 99, 3, 3, 8, 2, 7}) {
            text.append("speaker in 0 votes ").append(votes).append(" comes 0 needs 0;").append(votes == 1 ? WORD : "");
        }
        WordSeats x = told(due, 12, text.toString());
        due.row("speaker(i, 1), i ", Due.ints(40, 9, 1, 99, 3, 3, 8, 2, 7, -2), i -> x.speaker(i, 1));
    }

    /** All but the last, number 7, lead nowhere by what is said. */
    @Says("ROUNDS 0 .. 7 are numbered as they stand.")
    static void termI_roundsAreNumberedAsTheyStand(Due due) {
        WordSeats x = told(due, 12, SEAT + WORD + SPEAKER + "round 2 by 3 and 3;".repeat(7) + "round 1 by 0 and 0;");
        x.term();
        due.is("count(7)", 8, x.count(7));
        due.is("round(1)", 7, x.round(1));
    }

    @Says("TOKENS, blanks (32, 10) aside,")
    static void termI_blanksStandAside(Due due) {
        told(due, 2, "\n  chamber\nmeanings \n 4 law\n\nfirst   bar 20 dies 2 ; \n district\nseats 3\n;\n ");
        told(due, 1, "chamber meanings 4law first bar20dies 2;");
        told(due, 0, " ");
        told(due, 0, "\n");
        for (int sign : new int[] {0, 9, 11, 12, 13, 31, 33, 127, 128, 160, 255}) {
            faulty(due, 1, 7, "chamber" + (char) sign + "meanings 4 law first bar 20 dies 2;");
            faulty(due, 1, 43, HEAD + (char) sign);
        }
    }

    @Says("the longest:")
    static void termI_tokensAreTheLongest(Due due) {
        faulty(due, 1, 0, "chambermeanings 4 law first bar 20 dies 2;");
        faulty(due, 1, 43, HEAD + "districts eats 3;");
        faulty(due, 2, 58, HEAD + "district seats 33;");
        faulty(due, 1, 60, HEAD + "district seats 3 3;");
        due.is("means 1 0", 3, told(due, 3, SEAT + "word letters 3 in 0 party 0 means 1 0;").word(0, 3));
        faulty(due, 2, 94, SEAT + "word letters 3 in 0 party 0 means 10;");
    }

    @Says("words (a .. z),")
    static void termI_wordsAreOfSmallLetters(Due due) {
        faulty(due, 1, 0, "Chamber meanings 4 law first bar 20 dies 2;");
        faulty(due, 1, 0, "cHamber meanings 4 law first bar 20 dies 2;");
        faulty(due, 1, 43, HEAD + "`");
        faulty(due, 1, 43, HEAD + "{");
        faulty(due, 1, 43, HEAD + "{district seats 3;");
        faulty(due, 1, 51, HEAD + "district_ seats 3;");
        for (String near : new String[] {"distric", "districtz", "adistrict", "bistrict", "work", "cord"}) {
            faulty(due, 1, 43, HEAD + near + " seats 3;");
        }
        // The first and the last letter belong to words as all others do.
        faulty(due, 1, 43, HEAD + "adz");
        faulty(due, 1, 43, HEAD + "zebra");
    }

    @Says("numbers (digits),")
    static void termI_numbersAreOfDigits(Due due) {
        due.is("000: count(2)", 0, told(due, 1, "chamber meanings 4 law first bar 000 dies 2;").count(2));
        due.is("0000000000000000000008: count(0)", 8,
            told(due, 1, "chamber meanings 0000000000000000000008 law first bar 20 dies 2;").count(0));
        due.is("90: count(2)", 90, told(due, 1, "chamber meanings 4 law first bar 90 dies 2;").count(2));
        faulty(due, 1, 58, HEAD + "district seats -3;");
        faulty(due, 1, 58, HEAD + "district seats +3;");
        faulty(due, 1, 58, HEAD + "district seats /3;");
        faulty(due, 1, 58, HEAD + "district seats :3;");
        faulty(due, 1, 59, HEAD + "district seats 3.0;");
    }

    @Says("the sign ; .")
    static void termI_theOneSign(Due due) {
        told(due, 2, HEAD + " district seats 3 ;");
        for (String sign : new String[] {":", "<", ",", ".", "{", "}", "|"}) {
            faulty(due, 1, 42, "chamber meanings 4 law first bar 20 dies 2" + sign);
        }
    }

    // Term I: the faults

    @Says("FAULTS, the first by its place")
    static void termI_theFirstFaultByItsPlace(Due due) {
        faulty(due, 2, 17, "chamber meanings 9 law most bar 101 #");
        faulty(due, 1, 23, "chamber meanings 4 law most bar 101 #");
        faulty(due, 2, 33, "chamber meanings 4 law first bar 101 #");
        faulty(due, 1, 37, "chamber meanings 4 law first bar 100 #");
        faulty(due, 3, 111, HEAD + "district seats 3;".repeat(4) + "district seats 0;#");
        faulty(due, 2, 109, HEAD + "district seats 3;".repeat(3) + "district seats 0;district seats 3;");
    }

    @Says("(a TOKEN's first byte;")
    static void termI_placeOfATokensFirstByte(Due due) {
        faulty(due, 1, 3, " \n chambers meanings 4");
        faulty(due, 2, 20, "chamber meanings \n\n 999 law");
        faulty(due, 2, 17, "chamber meanings 0000009 law");
        faulty(due, 1, 45, HEAD + "  zebra seats 3;");
        faulty(due, 1, 2, " \n#");
    }

    @Says("the end's),")
    static void termI_placeOfTheEnd(Due due) {
        faulty(due, 1, 7, "chamber");
        faulty(due, 1, 10, "chamber \n ");
        faulty(due, 1, 42, "chamber meanings 4 law first bar 20 dies 2");
        faulty(due, 1, 51, HEAD + "district");
        faulty(due, 1, 95, SEAT + "word letters 3 in 0 party 0 means 0");
        String full = HEAD + " ".repeat(1549) + "district";
        due.is("a full text", 1600, full.length());
        faulty(due, 1, 1600, full);
    }

    /** A number where none can stand is no number out of bounds; a fifth district where none can is none at its word. */
    @Says("of one place the least:")
    static void termI_ofOnePlaceTheLeast(Due due) {
        faulty(due, 1, 23, "chamber meanings 4 law 999 bar 20 dies 2;");
        faulty(due, 1, 43, HEAD + "999");
        faulty(due, 1, 60, HEAD + "district seats 3 999;");
        String four = HEAD + "district seats 3;".repeat(4);
        faulty(due, 1, 124, four + "word letters district seats 3;");
        faulty(due, 1, 392, SEAT + WORD.repeat(9) + "speaker word");
        faulty(due, 1, 62, HEAD + "round 0 by 1 and 2 0;");
    }

    @Says("1 a TOKEN that is none,")
    static void termI_fault1ATokenThatIsNone(Due due) {
        faulty(due, 1, 0, "#" + HEAD);
        faulty(due, 1, 43, HEAD + (char) 0);
        faulty(due, 1, 43, HEAD + (char) 233);
        faulty(due, 1, 59, HEAD + "district seats 3%;");
        faulty(due, 1, 8, "chamber -meanings 4 law first bar 20 dies 2;");
    }

    @Says("or can't stand there")
    static void termI_fault1ATokenThatCannotStandThere(Due due) {
        faulty(due, 1, 0, ";");
        faulty(due, 1, 0, "7");
        faulty(due, 1, 17, "chamber meanings law first bar 20 dies 2;");
        faulty(due, 1, 8, "chamber 4 meanings law first bar 20 dies 2;");
        faulty(due, 1, 43, HEAD + "seats 3;");
        faulty(due, 1, 43, HEAD + "meanings 3;");
        faulty(due, 1, 61, HEAD + "district seats 3 ;;");
        faulty(due, 1, 61, SEAT + " seats");
    }

    @Says("(chamber behind the first LINE,")
    static void termI_fault1ChamberBehindTheFirstLine(Due due) {
        faulty(due, 1, 43, HEAD + "chamber");
        faulty(due, 1, 61, SEAT + "\nchamber meanings 4 law first bar 20 dies 2;");
        faulty(due, 1, 52, HEAD + "district chamber");
    }

    @Says("another word ahead of it).")
    static void termI_fault1AnotherWordAheadOfChamber(Due due) {
        faulty(due, 1, 0, "district seats 3;");
        faulty(due, 1, 0, "zebra");
        faulty(due, 1, 0, "meanings 4 law first bar 20 dies 2;");
        faulty(due, 1, 0, "chambers meanings 4 law first bar 20 dies 2;");
    }

    @Says("2 a number out of its bounds,")
    static void termI_fault2OutOfBounds(Due due) {
        faulty(due, 2, 17, "chamber meanings 0");
        faulty(due, 2, 41, "chamber meanings 4 law first bar 20 dies 0;");
        faulty(due, 2, 73, SEAT + "word letters 13 in 0 party 0 means 0;");
        faulty(due, 2, 79, SEAT + "speaker in 0 votes 100 comes 0 needs 0;");
        faulty(due, 2, 17, "chamber meanings " + "9".repeat(900));
    }

    @Says("not as said.")
    static void termI_fault2NotAsSaid(Due due) {
        faulty(due, 2, 54, HEAD + "round 2 by 2 and 1;");
        faulty(due, 2, 60, HEAD + "round 2 by 1 and 2;");
        faulty(due, 2, 54, HEAD + "round 2 by 002 and 1;");
        faulty(due, 2, 61, HEAD + "word letters 3 in 0 party 0 means 0;");
    }

    @Says("3 a 5th district,")
    static void termI_fault3AFifthDistrict(Due due) {
        String four = HEAD + "district seats 3;".repeat(4);
        told(due, 5, four);
        faulty(due, 3, 111, four + "district seats 3;");
        faulty(due, 3, 113, four + " \ndistrict;");
        faulty(due, 3, 111, four + "district");
    }

    @Says("10th word,")
    static void termI_fault3ATenthWord(Due due) {
        String nine = SEAT + WORD.repeat(9);
        told(due, 11, nine);
        faulty(due, 3, 384, nine + WORD);
        faulty(due, 3, 384, nine + "word");
        told(due, 12, nine + SPEAKER);
    }

    @Says("speaker,")
    static void termI_fault3ATenthSpeaker(Due due) {
        String nine = SEAT + SPEAKER.repeat(9);
        told(due, 11, nine);
        faulty(due, 3, 393, nine + SPEAKER);
        faulty(due, 3, 394, nine + "\nspeaker");
        told(due, 12, nine + WORD);
    }

    @Says("9th round,")
    static void termI_fault3ANinthRound(Due due) {
        String eight = HEAD + "round 0 by 1 and 2;".repeat(8);
        told(due, 9, eight);
        faulty(due, 3, 195, eight + "round 0 by 1 and 2;");
        faulty(due, 3, 195, eight + "round 0 by 0 and 9;");
    }

    @Says("at its word.")
    static void termI_fault3StandsAtItsWord(Due due) {
        faulty(due, 3, 116, HEAD + "district seats 3;".repeat(4) + "\n    district seats 3;");
        faulty(due, 3, 384, SEAT + WORD.repeat(9) + "word letters 99 in 9 party 9 means 9;");
    }

    @Says("SLOTS 0 .. 3 have rows of numbers")
    static void termI_slotsAre0To3(Due due) {
        WordSeats x = new WordSeats();
        due.row("row(slot, 0, 2), slot ", Due.ints(0, 0, 0, 0, -2), slot -> x.row(slot, 0, 2));
        due.is("row(-1, 0, 2)", -2, x.row(-1, 0, 2));
        due.is("count(11)", 4, x.count(11));
    }

    /** A 0 with one byte more than the row has is 0 again; with all its bytes it is none of the WORDS. */
    @Says("of 1, 2, 4 or 8 bytes (WIDTH 0 .. 3),")
    static void termI_widthsAre1To8Bytes(Due due) {
        WordSeats x = Due.chamber(Texts.TONGUE);
        for (int width = 0; width < 4; width++) {
            int bits = 8 << width;
            due.is("row(0, " + width + ", 2)", 0, x.row(0, width, 2));
            x.write(0, 1, 1L << bits - 1);
            due.is("width " + width + ", the highest bit: fits(0)", -2, x.fits(0));
            x.write(0, 1, bits == 64 ? 0 : 1L << bits);
            due.is("width " + width + ", beyond: fits(0)", 3, x.fits(0));
        }
        due.is("row(0, 4, 2)", -2, x.row(0, 4, 2));
        due.is("row(0, -1, 2)", -2, x.row(0, -1, 2));
    }

    @Says("at most 60,")
    static void termI_rowsHaveAtMost60(Due due) {
        WordSeats x = new WordSeats();
        for (int width = 0; width < 4; width++) {
            due.is("row(1, " + width + ", 61)", -2, x.row(1, width, 61));
            due.is("row(0, " + width + ", 60)", 0, x.row(0, width, 60));
            due.is("write(0, 59, 1)", 0, x.write(0, 59, 1));
            due.is("write(0, 60, 1)", -7, x.write(0, 60, 1));
        }
        due.is("count(11)", 1, x.count(11));
    }

    @Says("or nothing.")
    static void termI_slotsMayHaveNothing(Due due) {
        WordSeats x = Due.chamber(Texts.TONGUE);
        due.is("count(11)", 0, x.count(11));
        for (int slot = 0; slot < 4; slot++) {
            due.is("write(" + slot + ", 0, 0)", -6, x.write(slot, 0, 0));
            due.is("speech(" + slot + ")", -6, x.speech(slot));
        }
    }

    // promises 1 to 5

    @Says("No CHAMBER.")
    static void promise1_aNewObjectHasNoChamber(Due due) {
        WordSeats x = new WordSeats();
        due.row("count(", new int[12], x::count);
        due.is("sitting()", -2, x.sitting());
        due.is("elected()", -2, x.elected());
        due.is("term()", -2, x.term());
        due.is("word(0, 0)", -2, x.word(0, 0));
        due.is("speaker(0, 0)", -2, x.speaker(0, 0));
        due.is("district(0, 0)", -2, x.district(0, 0));
        due.is("said(0)", -2, x.said(0));
        due.is("back(0)", -6, x.back(0));
        due.is("write(0, 0, 0)", -6, x.write(0, 0, 0));
        due.is("NONE", -1, WordSeats.NONE);
    }

    @Says("Twenty bytes come behind the TAPE,")
    static void promise2_twentyBytesComeBehind(Due due) {
        WordSeats x = new WordSeats();
        x.feed(0x6368616d, 0x62657220, 0x6d65616e, 0x696e6773, 0x2032206c);
        due.is("end(18)", 18, x.end(18));
        // " law first bar 0 die", "s 1;"
        x.feed(0x206c6177, 0x20666972, 0x73742062, 0x61722030, 0x20646965);
        x.feed(0x7320313b, 0x20202020, 0x20202020, 0x20202020, 0x20202020);
        due.is("chamber()", 1, x.chamber());
        due.is("count(0)", 2, x.count(0));
    }

    @Says("four of each number, the highest first:")
    static void promise2_theHighestByteFirst(Due due) {
        WordSeats x = new WordSeats();
        x.feed(0x20202020, 0x20202020, 0x20202020, 0x20202020, 0x20202023);
        x.chamber();
        due.is("the last of twenty: fault(1)", 19, x.fault(1));
        for (int shift = 0; shift < 32; shift += 8) {
            x.end(0);
            x.feed(0x20202020, 0x0a0a0a0a, 0x20202020 ^ 0x80 << shift, 0x20202020, 0x20202020);
            x.chamber();
            due.is("the third number, from bit " + shift + ": fault(1)", 11 - shift / 8, x.fault(1));
        }
    }

    @Says("how many it has;")
    static void promise2_howManyItHas(Due due) {
        WordSeats x = new WordSeats();
        due.is("feed", 20, x.feed(0, 0, 0, 0, 0));
        due.is("feed", 40, x.feed(-1, -1, -1, -1, -1));
        due.is("end(7)", 7, x.end(7));
        due.is("feed", 27, x.feed(0, 0, 0, 0, 0));
        due.is("count(10)", 27, x.count(10));
    }

    @Says("NONE, and none come, if it would have more than 1,600.")
    static void promise2_noneComeBeyond1600(Due due) {
        WordSeats x = new WordSeats();
        int blanks = 0x20202020;
        for (int i = 1; i <= 80; i++) {
            due.is("feed " + i, 20 * i, x.feed(blanks, blanks, blanks, blanks, blanks));
        }
        due.is("feed 81", -1, x.feed(1, 2, 3, 4, 5));
        due.is("full: count(10)", 1600, x.count(10));
        due.is("end(1581)", 1581, x.end(1581));
        due.is("feed, 19 left", -1, x.feed(1, 2, 3, 4, 5));
        due.is("19 left: count(10)", 1581, x.count(10));
        due.is("end(1580)", 1580, x.end(1580));
        due.is("feed, 20 left", 1600, x.feed(blanks, blanks, blanks, blanks, blanks));
        due.is("nothing came: chamber()", 0, x.chamber());
    }

    @Says("The TAPE has its first n bytes alone: n;")
    static void promise3_theFirstBytesAlone(Due due) {
        WordSeats x = new WordSeats();
        Due.tell(x, HEAD + "zebra");
        due.is("end(48)", 48, x.end(48));
        due.is("end(43)", 43, x.end(43));
        due.is("count(10)", 43, x.count(10));
        due.is("chamber()", 1, x.chamber());
        Due.tell(x, HEAD);
        due.is("end(0)", 0, x.end(0));
        due.is("chamber()", 0, x.chamber());
        due.is("empty: end(0)", 0, x.end(0));
    }

    @Says("NONE, and nothing happens, if it has not so many,")
    static void promise3_notSoMany(Due due) {
        WordSeats x = new WordSeats();
        due.is("empty: end(1)", -1, x.end(1));
        Due.tell(x, HEAD);
        due.is("end(44)", -1, x.end(44));
        due.is("end(MAX)", -1, x.end(Integer.MAX_VALUE));
        due.is("count(10)", 43, x.count(10));
        due.is("end(40)", 40, x.end(40));
        due.is("end(41)", -1, x.end(41));
        due.is("count(10)", 40, x.count(10));
    }

    @Says("or n is below 0.")
    static void promise3_below0(Due due) {
        WordSeats x = new WordSeats();
        Due.tell(x, HEAD);
        due.is("end(-1)", -1, x.end(-1));
        due.is("end(MIN)", -1, x.end(Integer.MIN_VALUE));
        due.is("nothing happens: count(10)", 43, x.count(10));
        due.is("chamber()", 1, x.chamber());
    }

    @Says("The TAPE (empty then) is the CHAMBER")
    static void promise4_theTapeIsTheChamberAndEmptyThen(Due due) {
        WordSeats x = new WordSeats();
        Due.tell(x, SEAT);
        due.is("chamber()", 2, x.chamber());
        due.is("count(0)", 4, x.count(0));
        due.is("count(2)", 20, x.count(2));
        due.is("count(3)", 2, x.count(3));
        due.is("district(0, 0)", 3, x.district(0, 0));
        due.is("empty then: count(10)", 0, x.count(10));
        due.is("empty then: end(1)", -1, x.end(1));
        due.is("empty then: feed", 20, x.feed(0, 0, 0, 0, 0));
    }

    @Says("(in place of another):")
    static void promise4_inPlaceOfAnother(Due due) {
        WordSeats x = Due.chamber(Texts.LAWS);
        Due.tell(x, SEAT + WORD);
        due.is("chamber()", 3, x.chamber());
        due.row("count(", Due.ints(4, 0, 20, 2, 1, 1, 0, 0, 0, 3), x::count);
        due.is("word(1, 0)", -2, x.word(1, 0));
        due.is("district(1, 0)", -2, x.district(1, 0));
        due.is("speaker(0, 0)", -2, x.speaker(0, 0));
    }

    @Says("how many LINES")
    static void promise4_howManyLines(Due due) {
        told(due, 1, HEAD);
        told(due, 3, SEAT + SPEAKER);
        told(due, 20, Texts.LAWS);
        told(due, 31, SEAT + "district seats 3;".repeat(3) + "word letters 1 in 3 party 3 means 3;".repeat(9)
            + "speaker in 3 votes 99 comes 0 needs 0;".repeat(9) + "round 0 by 1 and 1;".repeat(8));
        due.is("count(9)", 20, Due.chamber(Texts.LAWS).count(9));
    }

    @Says("(0: there is none then);")
    static void promise4_withoutLinesThereIsNone(Due due) {
        for (String nothing : new String[] {"", "  \n ", "\n".repeat(20)}) {
            WordSeats x = Due.chamber(Texts.LAWS);
            Due.tell(x, nothing);
            due.is("chamber()", 0, x.chamber());
            due.is("sitting()", -2, x.sitting());
            due.row("count(", new int[12], x::count);
            due.is("word(0, 0)", -2, x.word(0, 0));
            due.is("said(0)", -2, x.said(0));
        }
    }

    @Says("no TERMS.")
    static void promise4_noTerms(Due due) {
        WordSeats x = Due.chamber(Texts.SPOILT);
        for (int i = 0; i < 3; i++) {
            x.term();
        }
        Due.tell(x, Texts.SPOILT);
        x.chamber();
        due.is("count(8)", 0, x.count(8));
        due.is("sitting()", 0, x.sitting());
        due.is("undo()", -5, x.undo());
        due.is("led(0)", -1, x.led(0));
        due.is("word(1, 4)", 0, x.word(1, 4));
        due.is("word(1, 5)", 0, x.word(1, 5));
        due.is("stand(0, 0)", 0, x.stand(0, 0));
    }

    @Says("-4: a FAULT")
    static void promise4_aFault(Due due) {
        for (String text : new String[] {"#", "chamber meanings 9", HEAD + "district seats 3;".repeat(5)}) {
            WordSeats x = new WordSeats();
            Due.tell(x, text);
            due.is("chamber() of " + text, -4, x.chamber());
            due.is("no chamber: sitting()", -2, x.sitting());
            due.row("no chamber: count(", new int[10], x::count);
        }
    }

    @Says("(all stays).")
    static void promise4_allStaysAtAFault(Due due) {
        WordSeats x = Due.chamber(SEAT + WORD + WORD + SPEAKER + "round 1 by 0 and 0;");
        x.term();
        x.image(1);
        x.row(2, 0, 2);
        Due.tell(x, HEAD + "district seats 4;district seats 0;");
        due.is("chamber()", -4, x.chamber());
        due.row("count(", Due.ints(4, 0, 20, 2, 1, 2, 1, 1, 1, 6, 77, 1), x::count);
        due.is("its seats: district(0, 0)", 3, x.district(0, 0));
        due.is("who sits: sitting()", 1, x.sitting());
        due.is("seasons: word(1, 4)", 1, x.word(1, 4));
        due.is("images: back(0)", -6, x.back(0));
        due.is("images: back(1)", 0, x.back(1));
        due.is("rows: write(2, 1, 0)", 0, x.write(2, 1, 0));
        due.is("again: chamber()", -4, x.chamber());
    }

    @Says("(all stays).")
    static void promise4_theTapeStaysAndCanBeMended(Due due) {
        WordSeats x = new WordSeats();
        Due.tell(x, HEAD + "district seats 4;district seats 0;");
        due.is("chamber()", -4, x.chamber());
        due.is("count(10)", 77, x.count(10));
        due.is("end(75)", 75, x.end(75));
        Due.tell(x, "5;");
        due.is("mended: chamber()", 3, x.chamber());
        due.is("mended: district(1, 0)", 5, x.district(1, 0));
        due.is("mended: count(10)", 0, x.count(10));
    }

    @Says("Of the latest chamber(), what 0: its FAULT,")
    static void promise5_theFault(Due due) {
        WordSeats x = new WordSeats();
        String[] texts = {HEAD + "zebra", HEAD + "district seats 0;", HEAD + "district seats 3;".repeat(5)};
        for (int i = 0; i < 3; i++) {
            x.end(0);
            Due.tell(x, texts[i]);
            x.chamber();
            due.is("fault(0)", i + 1, x.fault(0));
        }
        x.end(0);
        Due.tell(x, texts[0]);
        due.is("not yet the latest: fault(0)", 3, x.fault(0));
        x.chamber();
        due.is("the latest: fault(0)", 1, x.fault(0));
    }

    @Says("0 without,")
    static void promise5_noFault(Due due) {
        WordSeats x = new WordSeats();
        due.is("ahead of any: fault(0)", 0, x.fault(0));
        Due.tell(x, HEAD + "zebra");
        x.chamber();
        due.is("faulty: fault(0)", 1, x.fault(0));
        x.end(43);
        x.chamber();
        due.is("without: fault(0)", 0, x.fault(0));
        x.chamber();
        due.is("nothing told: fault(0)", 0, x.fault(0));
    }

    @Says("1: its place")
    static void promise5_itsPlace(Due due) {
        WordSeats x = new WordSeats();
        Due.tell(x, "#");
        x.chamber();
        due.is("fault(1)", 0, x.fault(1));
        x.end(0);
        Due.tell(x, HEAD + "  zebra");
        x.chamber();
        due.is("fault(1)", 45, x.fault(1));
        x.image(0);
        x.back(0);
        due.is("images do not keep it: fault(1)", 45, x.fault(1));
    }

    @Says("(NONE without).")
    static void promise5_noPlace(Due due) {
        WordSeats x = new WordSeats();
        Due.tell(x, HEAD + "zebra");
        x.chamber();
        due.is("fault(1)", 43, x.fault(1));
        x.end(43);
        x.chamber();
        due.is("without: fault(1)", -1, x.fault(1));
    }

    @Says("NONE for another what,")
    static void promise5_anotherWhat(Due due) {
        WordSeats x = new WordSeats();
        due.all("ahead of any: fault(", -1, x::fault, -1, 2, Integer.MIN_VALUE, Integer.MAX_VALUE);
        Due.tell(x, HEAD + "district seats 0;");
        x.chamber();
        due.all("faulty: fault(", -1, x::fault, -1, 2, 3, Integer.MIN_VALUE, Integer.MAX_VALUE);
    }

    @Says("and ahead of any (what 1).")
    static void promise5_aheadOfAny(Due due) {
        WordSeats x = new WordSeats();
        due.is("fault(1)", -1, x.fault(1));
        Due.tell(x, "#");
        due.is("fed alone: fault(1)", -1, x.fault(1));
        due.is("fed alone: fault(0)", 0, x.fault(0));
    }
}
