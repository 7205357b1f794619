/** Promises 6 to 23: who there is, who votes for whom, who sits by which law, who spoils. */
final class ElectionTest {
    private static final Due DUE = new Due();

    public static void main(String[] args) {
        whoThereIs();
        orders();
        firstVotes();
        laws();
        bars();
        strikes();
        duels();
        unlikeLaws();
        synonyms();
        spoilers();
        ties();
        emptyDistricts();
        strikeAndRunoffApart();
        DUE.close();
    }

    private static void whoThereIs() {
        WordSeats x = Due.chamber(Texts.LAWS);
        row("word(5, ", new int[] {2, 1, 3, 56, 0, 0, -2}, i -> x.word(5, i));
        row("word(7, ", new int[] {7, 1, 2, 32, 0, 0, -2}, i -> x.word(7, i));
        row("word(8, ", new int[] {-2, -2, -2, -2, -2, -2, -2}, i -> x.word(8, i));
        DUE.is("word(-1, 0)", -2, x.word(-1, 0));
        DUE.is("word(0, -1)", -2, x.word(0, -1));
        row("speaker(1, ", new int[] {0, 7, 60, 6, -2}, i -> x.speaker(1, i));
        row("speaker(6, ", new int[] {1, 3, 100, 1, -2}, i -> x.speaker(6, i));
        DUE.is("speaker(7, 0)", -2, x.speaker(7, 0));
        DUE.is("speaker(-1, 0)", -2, x.speaker(-1, 0));
        DUE.is("speaker(0, -1)", -2, x.speaker(0, -1));
        row("district(0, ", new int[] {3, 7, 20, -2}, i -> x.district(0, i));
        row("district(1, ", new int[] {4, 248, 18, -2}, i -> x.district(1, i));
        DUE.is("district(2, 0)", -2, x.district(2, 0));
        DUE.is("district(-1, 0)", -2, x.district(-1, 0));
        DUE.is("district(0, -1)", -2, x.district(0, -1));
    }

    private static void orders() {
        WordSeats x = Due.chamber(Texts.LAWS);
        row("likes(0, ", new int[] {2, 1, 1, 0, 0, 0, 0, 0, -2}, w -> x.likes(0, w));
        row("likes(6, ", new int[] {1, 0, 1, 0, 0, 0, 0, 0, -2}, w -> x.likes(6, w));
        DUE.is("likes(7, 0)", -2, x.likes(7, 0));
        DUE.is("likes(-1, 0)", -2, x.likes(-1, 0));
        DUE.is("likes(0, -1)", -2, x.likes(0, -1));
        row("order(0, ", new int[] {0, 2, 1, -1}, i -> x.order(0, i));
        row("order(1, ", new int[] {1, 2, 0, -1}, i -> x.order(1, i));
        row("order(2, ", new int[] {2, 1, 0, -1}, i -> x.order(2, i));
        row("order(5, ", new int[] {7, 6, 5, -1}, i -> x.order(5, i));
        row("order(6, ", new int[] {-1, -1}, i -> x.order(6, i));
        DUE.is("order(0, -1)", -1, x.order(0, -1));
        DUE.is("order(0, MAX)", -1, x.order(0, Integer.MAX_VALUE));
        DUE.is("order(7, 0)", -2, x.order(7, 0));
        DUE.is("order(-1, 0)", -2, x.order(-1, 0));
    }

    private static void firstVotes() {
        WordSeats x = Due.chamber(Texts.LAWS);
        row("votes(", new int[] {8, 7, 5, 6, 5, 0, 0, 4, -2}, x::votes);
        DUE.is("votes(-1)", -2, x.votes(-1));
        row("abstains(", new int[] {0, 3, -2}, x::abstains);
        DUE.is("abstains(-1)", -2, x.abstains(-1));
    }

    private static void laws() {
        WordSeats x = Due.chamber(Texts.LAWS);
        row("wins(0, ", new int[] {0, 1, 1, 2, -2}, law -> x.wins(0, law));
        row("wins(1, ", new int[] {3, 3, 3, 5, -2}, law -> x.wins(1, law));
        row("sits(0, ", new int[] {0, 1, 1, 2, -2}, law -> x.sits(0, law));
        row("sits(1, ", new int[] {3, 3, 3, 5, -2}, law -> x.sits(1, law));
        row("with(0, ", new int[] {8, 12, 12, 20, -2}, law -> x.with(0, law));
        row("with(1, ", new int[] {6, 6, 6, 15, -2}, law -> x.with(1, law));
        DUE.is("wins(2, 0)", -2, x.wins(2, 0));
        DUE.is("sits(2, 0)", -2, x.sits(2, 0));
        DUE.is("with(2, 0)", -2, x.with(2, 0));
        DUE.is("wins(0, -1)", -2, x.wins(0, -1));
        DUE.is("sits(-1, 0)", -2, x.sits(-1, 0));
        DUE.is("with(0, -1)", -2, x.with(0, -1));
        DUE.is("elected()", 9, x.elected());
        x.bill(0, 3);
        DUE.is("approve: elected()", 36, x.elected());
    }

    /** 8 of 20 are just 40 of a hundred; 6 of 18 are above 33 and below 34, who abstains counted too. */
    private static void bars() {
        WordSeats x = Due.chamber(Texts.LAWS);
        x.bill(1, 40);
        DUE.is("bar 40: sits(0, 0)", 0, x.sits(0, 0));
        DUE.is("bar 40: elected()", 1, x.elected());
        x.bill(1, 41);
        DUE.is("bar 41: sits(0, 0)", -1, x.sits(0, 0));
        DUE.is("bar 41: wins(0, 0)", 0, x.wins(0, 0));
        DUE.is("bar 41: with(0, 0)", 8, x.with(0, 0));
        DUE.is("bar 41: sits(0, 1)", 1, x.sits(0, 1));
        DUE.is("bar 41: elected()", 0, x.elected());
        DUE.is("bar 41: unlike(0, 1)", 1, x.unlike(0, 1));
        DUE.is("bar 41: unlike(0, 3)", 2, x.unlike(0, 3));
        x.bill(1, 33);
        DUE.is("bar 33: sits(1, 0)", 3, x.sits(1, 0));
        x.bill(1, 34);
        DUE.is("bar 34: sits(1, 0)", -1, x.sits(1, 0));
        x.bill(1, 100);
        DUE.is("bar 100: sits(0, 3)", 2, x.sits(0, 3));
        DUE.is("bar 100: sits(1, 3)", -1, x.sits(1, 3));
    }

    private static void strikes() {
        WordSeats x = Due.chamber(Texts.LAWS);
        row("struck(0, ", new int[] {2, -1}, i -> x.struck(0, i));
        row("struck(1, ", new int[] {5, 6, 7, -1}, i -> x.struck(1, i));
        DUE.is("struck(0, -1)", -1, x.struck(0, -1));
        DUE.is("struck(2, 0)", -2, x.struck(2, 0));
        DUE.is("struck(-1, 0)", -2, x.struck(-1, 0));
    }

    private static void duels() {
        WordSeats x = Due.chamber(Texts.LAWS);
        row("beats(0, ", new int[] {-2, 8, 8, -2, -2, -2, -2, -2, -2}, w -> x.beats(0, w));
        row("beats(1, ", new int[] {12, -2, 7, -2}, w -> x.beats(1, w));
        row("beats(2, ", new int[] {12, 13, -2, -2}, w -> x.beats(2, w));
        DUE.is("beats(3, 5)", 6, x.beats(3, 5));
        DUE.is("beats(5, 3)", 9, x.beats(5, 3));
        DUE.is("beats(6, 7)", 0, x.beats(6, 7));
        DUE.is("beats(7, 6)", 4, x.beats(7, 6));
        DUE.is("beats(-1, 0)", -2, x.beats(-1, 0));
        DUE.is("beats(8, 0)", -2, x.beats(8, 0));
        row("best(", new int[] {2, 5, -2}, x::best);
        DUE.is("best(-1)", -2, x.best(-1));
        WordSeats even = Due.chamber("chamber meanings 2 law first bar 0 dies 1;district seats 1;"
            + "word letters 9 in 0 party 0 means 0;word letters 3 in 0 party 0 means 1;"
            + "speaker in 0 votes 4 comes 0 needs 0;speaker in 0 votes 4 comes 0 needs 1;");
        DUE.is("even: best(0)", -1, even.best(0));
    }

    private static void unlikeLaws() {
        WordSeats x = Due.chamber(Texts.LAWS);
        row("unlike(0, ", new int[] {0, 1, 1, 2, -2}, law -> x.unlike(0, law));
        DUE.is("unlike(1, 2)", 0, x.unlike(1, 2));
        DUE.is("unlike(3, 1)", 2, x.unlike(3, 1));
        DUE.is("unlike(4, 0)", -2, x.unlike(4, 0));
        DUE.is("unlike(-1, 0)", -2, x.unlike(-1, 0));
        DUE.is("unlike(0, -1)", -2, x.unlike(0, -1));
    }

    private static void synonyms() {
        WordSeats x = Due.chamber(Texts.LAWS);
        row("synonyms(", new int[] {0, 0, 0, 0, 0, 0, 128, 64, -2}, x::synonyms);
        DUE.is("synonyms(-1)", -2, x.synonyms(-1));
        x.stand(7, 0);
        DUE.is("of another district: synonyms(6)", 0, x.synonyms(6));
        WordSeats three = Due.chamber("chamber meanings 2 law first bar 0 dies 1;district seats 1;"
            + "word letters 1 in 0 party 0 means 1 0;word letters 2 in 0 party 0 means 0 1;word letters 3 in 0 party 0 means 0;"
            + "word letters 4 in 0 party 0 means 0 1 0;");
        row("three: synonyms(", new int[] {10, 9, 0, 3, -2}, three::synonyms);
    }

    private static void spoilers() {
        WordSeats x = Due.chamber(Texts.SPOILT);
        row("spoils(", new int[] {1, 2, 0, 2, -2}, x::spoils);
        DUE.is("spoils(-1)", -2, x.spoils(-1));
        DUE.is("spoilers()", 10, x.spoilers());
        x.bill(1, 50);
        row("bar 50: spoils(", new int[] {-1, 2, -1, -1, -2}, x::spoils);
        DUE.is("bar 50, nobody sits: spoilers()", 2, x.spoilers());
        x.bill(1, 34);
        DUE.is("bar 34: spoils(0)", -1, x.spoils(0));
        x.bill(1, 0);
        x.bill(0, 3);
        row("approve: spoils(", new int[] {2, 2, 0, 2, -2}, x::spoils);
        DUE.is("approve: spoilers()", 0, x.spoilers());
        DUE.is("none: spoilers()", -2, new WordSeats().spoilers());
        // Word 0 takes the votes of speaker 0 from word 2.
        WordSeats first = Due.chamber("chamber meanings 3 law first bar 0 dies 1;district seats 1;"
            + "word letters 9 in 0 party 0 means 0;word letters 3 in 0 party 0 means 1;word letters 2 in 0 party 0 means 0 2;"
            + "speaker in 0 votes 3 comes 0 needs 0;speaker in 0 votes 4 comes 0 needs 1;speaker in 0 votes 2 comes 0 needs 2;");
        DUE.is("first: elected()", 2, first.elected());
        row("first: spoils(", new int[] {2, 0, 1, -2}, first::spoils);
        DUE.is("first: spoilers()", 1, first.spoilers());
    }

    /** Three words with two votes each: the longer, then the lesser number; struck the shorter, then the greater. */
    private static void ties() {
        WordSeats x = Due.chamber("chamber meanings 3 law first bar 0 dies 1;district seats 1;"
            + "word letters 3 in 0 party 0 means 0;word letters 5 in 0 party 0 means 1;word letters 5 in 0 party 0 means 2;"
            + "speaker in 0 votes 2 comes 0 needs 0;speaker in 0 votes 2 comes 0 needs 1;"
            + "speaker in 0 votes 2 comes 0 needs 2;");
        row("tie: wins(0, ", new int[] {1, 1, 1, 1}, law -> x.wins(0, law));
        row("tie: with(0, ", new int[] {2, 2, 2, 2}, law -> x.with(0, law));
        row("tie: struck(0, ", new int[] {0, 2, -1}, i -> x.struck(0, i));
        x.need(0, 6);
        row("tie: order(0, ", new int[] {1, 2, -1}, i -> x.order(0, i));
    }

    private static void emptyDistricts() {
        WordSeats x = Due.chamber("chamber meanings 2 law first bar 0 dies 1;district seats 1;district seats 1;district seats 1;"
            + "word letters 3 in 1 party 0 means 0;word letters 3 in 1 party 0 means 0;word letters 5 in 1 party 0 means 0;"
            + "word letters 2 in 2 party 0 means 0;speaker in 2 votes 9 comes 100 needs 1;");
        for (int district = 0; district < 3; district++) {
            for (int law = 0; law < 4; law++) {
                DUE.is("no votes: wins(" + district + ", " + law + ")", -1, x.wins(district, law));
                DUE.is("no votes: sits(" + district + ", " + law + ")", -1, x.sits(district, law));
                DUE.is("no votes: with(" + district + ", " + law + ")", -1, x.with(district, law));
            }
        }
        DUE.is("nobody stands: struck(0, 0)", -1, x.struck(0, 0));
        row("nobody votes: struck(1, ", new int[] {1, 0, -1}, i -> x.struck(1, i));
        DUE.is("one alone: struck(2, 0)", -1, x.struck(2, 0));
        DUE.is("nobody stands: best(0)", -1, x.best(0));
        DUE.is("nobody votes: best(1)", -1, x.best(1));
        DUE.is("one alone: best(2)", 3, x.best(2));
        DUE.is("elected()", 0, x.elected());
        DUE.is("abstains(2)", 9, x.abstains(2));
        WordSeats bare = Due.chamber("chamber meanings 1 law strike bar 0 dies 1;");
        DUE.is("bare: elected()", 0, bare.elected());
        DUE.is("bare: unlike(0, 1)", 0, bare.unlike(0, 1));
        DUE.is("bare: spoilers()", 0, bare.spoilers());
    }

    private static void strikeAndRunoffApart() {
        WordSeats x = Due.chamber(Texts.SPOILT);
        row("wins(0, ", new int[] {0, 0, 2, 2}, law -> x.wins(0, law));
        row("with(0, ", new int[] {6, 6, 12, 12}, law -> x.with(0, law));
        row("struck(0, ", new int[] {3, 1, -1}, i -> x.struck(0, i));
        DUE.is("best(0)", 2, x.best(0));
    }

    private static void row(String call, int[] want, java.util.function.IntUnaryOperator got) {
        for (int i = 0; i < want.length; i++) {
            DUE.is(call + i + ")", want[i], got.applyAsInt(i));
        }
    }
}
