/** Promises 44 to 51: parties' power, coalitions, lists, districts drawn for a party. */
final class PartyTest {
    private static final Due DUE = new Due();

    /** Seats 4, 3, 2, 1 and votes 40, 30, 20, 10 for parties 0 to 3. */
    private static final String FOUR = """
        chamber meanings 1 law first bar 0 dies 9;
        district seats 4; district seats 3; district seats 2; district seats 1;
        word letters 3 in 0 party 0 means 0; word letters 3 in 1 party 1 means 0;
        word letters 3 in 2 party 2 means 0; word letters 3 in 3 party 3 means 0;
        speaker in 0 votes 40 comes 0 needs 0; speaker in 1 votes 30 comes 0 needs 0;
        speaker in 2 votes 20 comes 0 needs 0; speaker in 3 votes 10 comes 0 needs 0;
        """;

    /** Meaning 0 is party 0's, meaning 1 party 1's. */
    private static final String TWO = """
        chamber meanings 2 law first bar 0 dies 9;
        district seats 1; district seats 1;
        word letters 3 in 0 party 0 means 0; word letters 3 in 0 party 1 means 1;
        word letters 3 in 1 party 0 means 0; word letters 3 in 1 party 1 means 1;
        speaker in 0 votes 5 comes 0 needs 0; speaker in 0 votes 5 comes 0 needs 0;
        speaker in 1 votes 4 comes 0 needs 1; speaker in 1 votes 11 comes 0 needs 1;
        """;

    public static void main(String[] args) {
        power();
        nobodySits();
        severalSeats();
        lists();
        rigged();
        notRigged();
        withoutChamber();
        DUE.close();
    }

    private static void power() {
        WordSeats x = Due.chamber(FOUR);
        x.term();
        int[] above = {5, 1, 1, 1};
        int[] below = {12, 4, 4, 12};
        for (int party = 0; party < 4; party++) {
            DUE.is("seats(" + party + ")", 4 - party, x.seats(party));
            DUE.is("share(" + party + ", 0)", above[party], x.share(party, 0));
            DUE.is("share(" + party + ", 1)", below[party], x.share(party, 1));
        }
        int[] majority = {0, 0, 0, 1, 0, 1, 0, 1, 0, 0, 0, 1, 0, 1, 1, 1, -2};
        int[] breaks = {0, 0, 0, 3, 0, 5, 0, 1, 0, 0, 0, 3, 0, 5, 14, 0, -2};
        for (int set = 0; set <= 16; set++) {
            DUE.is("majority(" + set + ")", majority[set], x.majority(set));
            DUE.is("breaks(" + set + ")", breaks[set], x.breaks(set));
        }
        DUE.is("coalition()", 3, x.coalition());
        DUE.is("seats(4)", -2, x.seats(4));
        DUE.is("seats(-1)", -2, x.seats(-1));
        DUE.is("majority(-1)", -2, x.majority(-1));
        DUE.is("breaks(-1)", -2, x.breaks(-1));
        DUE.is("share(4, 0)", -2, x.share(4, 0));
        DUE.is("share(-1, 0)", -2, x.share(-1, 0));
        DUE.is("share(0, 2)", -2, x.share(0, 2));
        DUE.is("share(0, -1)", -2, x.share(0, -1));
    }

    private static void nobodySits() {
        WordSeats x = Due.chamber(FOUR);
        DUE.is("nobody: seats(0)", 0, x.seats(0));
        DUE.is("nobody: majority(15)", 0, x.majority(15));
        DUE.is("nobody: share(0, 0)", 0, x.share(0, 0));
        DUE.is("nobody: share(0, 1)", 1, x.share(0, 1));
        DUE.is("nobody: coalition()", -1, x.coalition());
        DUE.is("nobody: breaks(15)", 0, x.breaks(15));
        WordSeats bare = Due.chamber("chamber meanings 1 law first bar 0 dies 1;");
        DUE.is("bare: majority(15)", 0, bare.majority(15));
        DUE.is("bare: coalition()", -1, bare.coalition());
        DUE.is("bare: lists(5, 0)", 0, bare.lists(5, 0));
    }

    /** Seats without who sits count for the majority too: 4 and 1 of 10 are just half. */
    private static void severalSeats() {
        WordSeats x = Due.chamber(FOUR);
        x.stand(1, 0);
        x.stand(3, 2);
        x.stand(2, 3);
        x.term();
        // Words 0 and 1 are of district 0 alike, 3 sits in 2, 2 in 3, nobody in 1.
        DUE.is("several: sitting()", 13, x.sitting());
        DUE.is("several: seats(0)", 4, x.seats(0));
        DUE.is("several: seats(1)", 0, x.seats(1));
        DUE.is("several: seats(2)", 1, x.seats(2));
        DUE.is("several: seats(3)", 2, x.seats(3));
        DUE.is("several, just half: majority(5)", 0, x.majority(5));
        DUE.is("several: majority(9)", 1, x.majority(9));
        DUE.is("several: coalition()", 9, x.coalition());
        DUE.is("several: share(0, 0)", 1, x.share(0, 0));
        DUE.is("several: share(0, 1)", 2, x.share(0, 1));
        DUE.is("several: share(2, 0)", 0, x.share(2, 0));
        DUE.is("several: share(2, 1)", 1, x.share(2, 1));
        WordSeats one = Due.chamber("chamber meanings 1 law first bar 0 dies 1;district seats 2;district seats 9;"
            + "word letters 1 in 0 party 3 means 0;word letters 1 in 1 party 3 means 0;"
            + "speaker in 0 votes 1 comes 0 needs 0;speaker in 1 votes 1 comes 0 needs 0;");
        one.term();
        DUE.is("one: seats(3)", 11, one.seats(3));
        DUE.is("one: share(3, 0)", 1, one.share(3, 0));
        DUE.is("one: share(3, 1)", 1, one.share(3, 1));
        DUE.is("one: coalition()", 8, one.coalition());
        DUE.is("one: breaks(15)", 8, one.breaks(15));
        // 4 of 7 are more than half.
        WordSeats laws = Due.chamber(Texts.LAWS);
        laws.bill(0, 3);
        laws.term();
        DUE.is("laws: seats(3)", 4, laws.seats(3));
        DUE.is("laws: majority(8)", 1, laws.majority(8));
        DUE.is("laws: majority(7)", 0, laws.majority(7));
        // Seats 4, 1, 1, 4: three parties come first by their bits, but two are fewer.
        WordSeats fewer = Due.chamber(FOUR.replace("seats 1", "seats 4 ").replace("seats 3", "seats 1").replace("seats 2", "seats 1"));
        fewer.term();
        DUE.is("fewer: seats(3)", 4, fewer.seats(3));
        DUE.is("fewer: majority(7)", 1, fewer.majority(7));
        DUE.is("fewer: coalition()", 9, fewer.coalition());
    }

    private static void lists() {
        WordSeats x = Due.chamber(FOUR);
        int[][] due = {{0, 0, 0, 0}, {1, 0, 0, 0}, {1, 1, 0, 0}, {2, 1, 0, 0}, {2, 1, 1, 0}, {2, 2, 1, 0},
            {3, 2, 1, 0}, {4, 2, 1, 0}, {4, 3, 1, 0}, {4, 3, 2, 0}, {4, 3, 2, 1}};
        for (int n = 0; n < due.length; n++) {
            for (int party = 0; party < 4; party++) {
                DUE.is("lists(" + n + ", " + party + ")", due[n][party], x.lists(n, party));
            }
        }
        DUE.is("lists(20, 0)", 8, x.lists(20, 0));
        DUE.is("lists(21, 0)", -2, x.lists(21, 0));
        DUE.is("lists(-1, 0)", -2, x.lists(-1, 0));
        DUE.is("lists(1, 4)", -2, x.lists(1, 4));
        DUE.is("lists(1, -1)", -2, x.lists(1, -1));
        // Party 0 has 5 and 5 first votes in one district, party 1 has 15 in another.
        WordSeats two = Due.chamber(TWO);
        DUE.is("two: lists(5, 0)", 2, two.lists(5, 0));
        DUE.is("two: lists(5, 1)", 3, two.lists(5, 1));
        WordSeats mute = Due.chamber("chamber meanings 2 law first bar 0 dies 1;district seats 1;"
            + "word letters 1 in 0 party 0 means 0;speaker in 0 votes 9 comes 0 needs 1;");
        DUE.is("no votes: lists(20, 0)", 0, mute.lists(20, 0));
    }

    private static void rigged() {
        WordSeats x = Due.chamber(TWO);
        put(x, 0, 1, new int[] {0, 0, 0, 1});
        put(x, 1, 2, new int[] {0, 0, 1, 0});
        put(x, 2, 0, new int[] {0, 0, 0, 1});
        DUE.is("all as ever: speaker(2, 0)", 1, x.speaker(2, 0));
        DUE.is("rigged(4)", -2, x.rigged(4));
        DUE.is("rigged(-1)", -2, x.rigged(-1));
        DUE.is("put(4, 0)", -2, x.put(4, 0));
        DUE.is("put(-1, 0)", -2, x.put(-1, 0));
        DUE.is("put(0, 4)", -2, x.put(0, 4));
        DUE.is("put(0, -1)", -2, x.put(0, -1));
        // By bar 60 party 1 has 11 of 21 no more; 11 of 16 are enough: 5 and 11, but then 5 and 4 are not.
        x.bill(1, 60);
        put(x, 1, 1, new int[] {0, 0, 0, 1});
        // Word 1 of party 0 stands in district 1 alone: there it needs speaker 0.
        WordSeats last = Due.chamber("chamber meanings 2 law first bar 0 dies 1;district seats 1;district seats 1;"
            + "word letters 1 in 0 party 1 means 0;word letters 1 in 1 party 0 means 0;"
            + "speaker in 0 votes 1 comes 0 needs 0;speaker in 0 votes 1 comes 0 needs 1;");
        put(last, 0, 1, new int[] {1, 0});
        put(last, 1, 1, new int[] {0, 1});
        // Four speakers for four districts: each row is a permutation, the first is the least.
        WordSeats four = Due.chamber(FOUR);
        put(four, 0, 1, new int[] {0, 1, 2, 3});
        // Six speakers, who need meanings of party 0 (votes 3, 3, 3) and of party 1 (votes 2, 2, 4).
        WordSeats six = Due.chamber("""
            chamber meanings 2 law first bar 0 dies 9;
            district seats 1; district seats 1; district seats 1;
            word letters 3 in 0 party 0 means 0; word letters 4 in 0 party 1 means 1;
            word letters 3 in 1 party 0 means 0; word letters 4 in 1 party 1 means 1;
            word letters 3 in 2 party 0 means 0; word letters 4 in 2 party 1 means 1;
            speaker in 0 votes 3 comes 0 needs 0; speaker in 0 votes 3 comes 0 needs 0; speaker in 0 votes 3 comes 0 needs 0;
            speaker in 0 votes 2 comes 0 needs 1; speaker in 0 votes 2 comes 0 needs 1; speaker in 0 votes 4 comes 0 needs 1;
            """);
        // Party 0 loses to the 4 somewhere: 6 against 2 and 2, 3 alone, 4 alone.
        put(six, 0, 2, new int[] {0, 0, 1, 0, 0, 2});
        // Party 1: in three districts only the 4 is enough for a 3, so two.
        DUE.is("six: rigged(1)", 2, six.rigged(1));
    }

    private static void put(WordSeats x, int party, int most, int[] row) {
        DUE.is("rigged(" + party + ")", most, x.rigged(party));
        for (int speaker = 0; speaker < row.length; speaker++) {
            DUE.is("put(" + party + ", " + speaker + ")", row[speaker], x.put(party, speaker));
        }
    }

    private static void notRigged() {
        WordSeats seven = Due.chamber(Texts.LAWS);
        DUE.is("seven speakers: rigged(0)", -1, seven.rigged(0));
        DUE.is("seven speakers: put(0, 6)", -1, seven.put(0, 6));
        DUE.is("seven speakers: put(0, 7)", -2, seven.put(0, 7));
        DUE.is("seven speakers: rigged(4)", -2, seven.rigged(4));
        WordSeats few = Due.chamber("chamber meanings 1 law first bar 0 dies 1;district seats 1;district seats 1;"
            + "speaker in 0 votes 1 comes 1 needs 0;");
        DUE.is("few: rigged(0)", -1, few.rigged(0));
        DUE.is("few: put(0, 0)", -1, few.put(0, 0));
        DUE.is("few: put(0, 1)", -2, few.put(0, 1));
        WordSeats bare = Due.chamber("chamber meanings 1 law first bar 0 dies 1;");
        DUE.is("bare: rigged(0)", -2, bare.rigged(0));
        DUE.is("bare: put(0, 0)", -2, bare.put(0, 0));
    }

    private static void withoutChamber() {
        WordSeats x = new WordSeats();
        DUE.is("none: seats(0)", -2, x.seats(0));
        DUE.is("none: majority(0)", -2, x.majority(0));
        DUE.is("none: share(0, 0)", -2, x.share(0, 0));
        DUE.is("none: coalition()", -2, x.coalition());
        DUE.is("none: breaks(0)", -2, x.breaks(0));
        DUE.is("none: lists(0, 0)", -2, x.lists(0, 0));
        DUE.is("none: rigged(0)", -2, x.rigged(0));
        DUE.is("none: put(0, 0)", -2, x.put(0, 0));
    }
}
