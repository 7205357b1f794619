/** Chambers that several tests use; what is due of them was worked out by hand. */
final class Texts {
    /** District 0: the four laws choose unlike words. District 1: three are struck, one speaker abstains. */
    static final String LAWS = """
        chamber meanings 6 law first bar 0 dies 2;
        district seats 3;
        district seats 4;
        word letters 3 in 0 party 0 means 0 1;
        word letters 4 in 0 party 1 means 1 2;
        word letters 5 in 0 party 2 means 2 0;
        word letters 9 in 1 party 0 means 3;
        word letters 8 in 1 party 1 means 4;
        word letters 2 in 1 party 3 means 3 4 5;
        word letters 6 in 1 party 2 means 5;
        word letters 7 in 1 party 2 means 5 5;
        speaker in 0 votes 8 comes 100 needs 0 1;
        speaker in 0 votes 7 comes 60 needs 1 2;
        speaker in 0 votes 5 comes 0 needs 2 0;
        speaker in 1 votes 6 comes 100 needs 3;
        speaker in 1 votes 5 comes 50 needs 4;
        speaker in 1 votes 4 comes 50 needs 5;
        speaker in 1 votes 3 comes 100 needs 0;
        round 0 by 1 and 2;
        round 2 by 3 and 4;
        """;

    /** Words 1 and 3 take votes from word 2, so that word 0 sits. */
    static final String SPOILT = """
        chamber meanings 4 law first bar 0 dies 3;
        district seats 2;
        word letters 3 in 0 party 0 means 0;
        word letters 6 in 0 party 1 means 1;
        word letters 4 in 0 party 2 means 2;
        word letters 5 in 0 party 3 means 3;
        speaker in 0 votes 6 comes 100 needs 0;
        speaker in 0 votes 5 comes 100 needs 1 2;
        speaker in 0 votes 4 comes 100 needs 2;
        speaker in 0 votes 3 comes 100 needs 3 2;
        """;

    /** Two districts with one seat holder each, and ways round. */
    static final String TONGUE = """
        chamber meanings 5 law first bar 0 dies 9;
        district seats 3;
        district seats 2;
        word letters 4 in 0 party 0 means 0;
        word letters 2 in 0 party 1 means 1;
        word letters 7 in 1 party 0 means 1 2;
        word letters 3 in 1 party 2 means 2;
        speaker in 0 votes 9 comes 100 needs 0;
        speaker in 0 votes 2 comes 100 needs 1 3;
        speaker in 1 votes 3 comes 100 needs 1 2 4;
        speaker in 1 votes 1 comes 100 needs 2;
        round 3 by 0 and 1;
        round 1 by 0 and 2;
        round 2 by 0 and 0;
        round 3 by 1 and 0;
        """;

    private Texts() {
    }

    /** Of SPOILT words 1, 2 and 3 have died by three terms; word 0 means 0 and has 6 votes of 18. */
    static WordSeats buried() {
        WordSeats x = Due.chamber(SPOILT);
        for (int i = 0; i < 3; i++) {
            x.term();
        }
        return x;
    }
}
