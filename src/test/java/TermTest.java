/** Promises 24 to 28: who sits, terms one by one, words that die, taken back. */
final class TermTest {
    private static final Due DUE = new Due();

    public static void main(String[] args) {
        threeTermsAndDeath();
        backAgain();
        seasonsBeginAnew();
        sixtyTerms();
        lawsBetweenTerms();
        nobodySits();
        withoutChamber();
        DUE.close();
    }

    private static void threeTermsAndDeath() {
        WordSeats x = Due.chamber(Texts.SPOILT);
        DUE.is("sitting()", 0, x.sitting());
        DUE.is("dies()", 3, x.dies());
        DUE.is("led(0)", -1, x.led(0));
        DUE.is("undo()", -5, x.undo());
        DUE.is("term() 1", 1, x.term());
        DUE.is("sitting()", 1, x.sitting());
        DUE.is("word(0, 4)", 0, x.word(0, 4));
        DUE.is("word(1, 4)", 1, x.word(1, 4));
        DUE.is("dies()", 2, x.dies());
        DUE.is("term() 2", 1, x.term());
        DUE.is("word(3, 4)", 2, x.word(3, 4));
        DUE.is("word(3, 5)", 0, x.word(3, 5));
        DUE.is("dies()", 1, x.dies());
        DUE.is("term() 3", 1, x.term());
        DUE.is("count(8)", 3, x.count(8));
        for (int word = 1; word < 4; word++) {
            DUE.is("word(" + word + ", 4)", 3, x.word(word, 4));
            DUE.is("word(" + word + ", 5)", 1, x.word(word, 5));
            DUE.is("votes(" + word + ")", 0, x.votes(word));
            DUE.is("spoils(" + word + ")", -2, x.spoils(word));
            DUE.is("beats(0, " + word + ")", -2, x.beats(0, word));
            DUE.is("beats(" + word + ", 0)", -2, x.beats(word, 0));
        }
        theDeadAreOut(x);
        DUE.is("dies()", -1, x.dies());
        DUE.is("led(0)", 1, x.led(0));
        DUE.is("led(2)", 1, x.led(2));
        DUE.is("led(3)", -1, x.led(3));
        DUE.is("led(-1)", -1, x.led(-1));
        DUE.is("term() 4", 1, x.term());
        DUE.is("the dead have none: word(1, 4)", 0, x.word(1, 4));
        DUE.is("and stay dead: word(1, 5)", 1, x.word(1, 5));
    }

    private static void theDeadAreOut(WordSeats x) {
        DUE.is("district(0, 1)", 1, x.district(0, 1));
        DUE.is("district(0, 2)", 18, x.district(0, 2));
        DUE.is("abstains(0)", 12, x.abstains(0));
        DUE.is("order(1, 0)", -1, x.order(1, 0));
        DUE.is("likes(1, 1)", 1, x.likes(1, 1));
        DUE.is("spoils(0)", -1, x.spoils(0));
        DUE.is("spoilers()", 0, x.spoilers());
        DUE.is("best(0)", 0, x.best(0));
        DUE.is("wins(0, 3)", 0, x.wins(0, 3));
        DUE.is("struck(0, 0)", -1, x.struck(0, 0));
        DUE.is("cover(1)", 1, x.cover(1));
        DUE.is("cover(2)", -1, x.cover(2));
        DUE.is("housed()", 1, x.housed());
        DUE.is("cheapest(0)", 0, x.cheapest(0));
        DUE.is("feint(1)", -1, x.feint(1));
        DUE.is("lists(3, 1)", 0, x.lists(3, 1));
        DUE.is("lists(3, 0)", 3, x.lists(3, 0));
        DUE.is("years(0, 1, 1)", 0, x.years(0, 1, 1));
        DUE.is("rigged(1)", 0, x.rigged(1));
        DUE.is("by(14), the dead too", 6 * 40 + 5 * (6 + 4) + 4 * 4 + 3 * (5 + 4), x.by(14));
        x.row(0, 0, 0);
        DUE.is("fits(0)", 2, x.fits(0));
        DUE.is("sure(0, 1)", 1, x.sure(0, 1));
    }

    private static void backAgain() {
        WordSeats x = Due.chamber(Texts.SPOILT);
        for (int i = 0; i < 4; i++) {
            x.term();
        }
        DUE.is("undo()", 3, x.undo());
        DUE.is("word(1, 4)", 3, x.word(1, 4));
        DUE.is("word(1, 5)", 1, x.word(1, 5));
        DUE.is("undo()", 2, x.undo());
        DUE.is("word(1, 4)", 2, x.word(1, 4));
        DUE.is("word(1, 5)", 0, x.word(1, 5));
        DUE.is("votes(1)", 5, x.votes(1));
        DUE.is("led(1)", 1, x.led(1));
        DUE.is("led(2)", -1, x.led(2));
        DUE.is("undo()", 1, x.undo());
        DUE.is("undo()", 0, x.undo());
        DUE.is("sitting()", 0, x.sitting());
        DUE.is("word(1, 4)", 0, x.word(1, 4));
        DUE.is("undo()", -5, x.undo());
    }

    /** Who sits has no term out of season any more; what was changed between terms is not taken back with them. */
    private static void seasonsBeginAnew() {
        WordSeats x = Due.chamber(Texts.SPOILT);
        x.term();
        x.term();
        DUE.is("need(0, 2)", 1, x.need(0, 2));
        DUE.is("elected()", 2, x.elected());
        DUE.is("dies()", 1, x.dies());
        DUE.is("term()", 1, x.term());
        DUE.is("sitting()", 2, x.sitting());
        DUE.is("word(0, 4)", 1, x.word(0, 4));
        DUE.is("word(1, 4)", 0, x.word(1, 4));
        DUE.is("word(2, 4)", 3, x.word(2, 4));
        DUE.is("word(1, 5)", 0, x.word(1, 5));
        DUE.is("word(2, 5)", 1, x.word(2, 5));
        DUE.is("led(1)", 1, x.led(1));
        DUE.is("led(2)", 2, x.led(2));
        DUE.is("dies()", 2, x.dies());
        DUE.is("undo()", 2, x.undo());
        DUE.is("sitting()", 1, x.sitting());
        DUE.is("word(1, 4)", 2, x.word(1, 4));
        DUE.is("word(0, 4)", 0, x.word(0, 4));
        DUE.is("speaker(0, 3)", 2, x.speaker(0, 3));
    }

    private static void sixtyTerms() {
        WordSeats x = Due.chamber(Texts.LAWS);
        for (int i = 0; i < 60; i++) {
            DUE.is("term() " + i, 2, x.term());
        }
        DUE.is("term() 60", -5, x.term());
        DUE.is("count(8)", 60, x.count(8));
        DUE.is("led(59)", 9, x.led(59));
        DUE.is("led(60)", -1, x.led(60));
        DUE.is("undo()", 59, x.undo());
        DUE.is("term()", 2, x.term());
        DUE.is("term()", -5, x.term());
        for (int i = 59; i >= 0; i--) {
            DUE.is("undo()", i, x.undo());
        }
        DUE.is("undo()", -5, x.undo());
        DUE.is("district(1, 1)", 248, x.district(1, 1));
    }

    /** With more terms out of season than dies, a word dies by the next one, if it does not sit. */
    private static void lawsBetweenTerms() {
        WordSeats x = Due.chamber(Texts.SPOILT);
        x.term();
        x.term();
        DUE.is("bill(2, 1)", 3, x.bill(2, 1));
        DUE.is("word(1, 5)", 0, x.word(1, 5));
        DUE.is("dies()", 1, x.dies());
        x.bill(0, 2);
        DUE.is("term()", 1, x.term());
        DUE.is("sitting()", 4, x.sitting());
        DUE.is("word(0, 5)", 1, x.word(0, 5));
        DUE.is("word(0, 4)", 1, x.word(0, 4));
        DUE.is("word(1, 5)", 1, x.word(1, 5));
        DUE.is("word(1, 4)", 3, x.word(1, 4));
        DUE.is("word(2, 5)", 0, x.word(2, 5));
        DUE.is("word(2, 4)", 0, x.word(2, 4));
    }

    private static void nobodySits() {
        WordSeats x = Due.chamber(Texts.SPOILT);
        x.bill(1, 100);
        DUE.is("term()", 0, x.term());
        DUE.is("sitting()", 0, x.sitting());
        DUE.is("led(0)", 0, x.led(0));
        DUE.is("word(0, 4)", 1, x.word(0, 4));
        x.bill(1, 0);
        DUE.is("elected()", 1, x.elected());
        DUE.is("sitting()", 0, x.sitting());
        WordSeats nine = Due.chamber("chamber meanings 1 law first bar 0 dies 9;district seats 1;word letters 1 in 0 party 0 means 0;");
        DUE.is("nine: dies()", 9, nine.dies());
        WordSeats bare = Due.chamber("chamber meanings 1 law first bar 0 dies 1;");
        DUE.is("bare: dies()", -1, bare.dies());
        DUE.is("bare: term()", 0, bare.term());
        DUE.is("bare: count(8)", 1, bare.count(8));
    }

    private static void withoutChamber() {
        WordSeats x = new WordSeats();
        DUE.is("none: sitting()", -2, x.sitting());
        DUE.is("none: term()", -2, x.term());
        DUE.is("none: undo()", -2, x.undo());
        DUE.is("none: led(0)", -2, x.led(0));
        DUE.is("none: dies()", -2, x.dies());
    }
}
