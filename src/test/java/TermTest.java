/** Term IV and promises 24 to 28: who sits, terms one by one, words that die, taken back. */
final class TermTest {
    private static final int FAR = Integer.MAX_VALUE;
    private static final int FAR_BELOW = Integer.MIN_VALUE;

    public static void main(String[] args) {
        Suite.run(TermTest.class);
    }

    private static WordSeats after(int terms, String text) {
        WordSeats x = Due.chamber(text);
        for (int i = 0; i < terms; i++) {
            x.term();
        }
        return x;
    }

    /** Whichever of two words its one speaker needs sits. */
    private static WordSeats swing(int dies) {
        return Town.of(2).dies(dies).district(1).word(3, 0, 0, 0).word(3, 0, 0, 1).speaker(0, 1, 0).open();
    }

    // Term IV

    @Says("TERM: an election by the law:")
    static void termIV_anElectionByTheLaw(Due due) {
        int[] sits = {9, 10, 10, 36};
        for (int law = 0; law < 4; law++) {
            WordSeats x = Due.chamber(Texts.LAWS);
            x.bill(0, law);
            x.term();
            due.is("law " + law + ": sitting()", sits[law], x.sitting());
        }
        WordSeats barred = Due.chamber(Texts.LAWS);
        barred.bill(1, 40);
        barred.term();
        due.is("bar 40: sitting()", 1, barred.sitting());
    }

    @Says("who SITS now is kept;")
    static void termIV_whoSitsIsKept(Due due) {
        WordSeats x = swing(9);
        x.term();
        x.need(0, 2);
        due.is("would: elected()", 2, x.elected());
        due.is("kept: sitting()", 1, x.sitting());
        x.bill(1, 100);
        x.bill(0, 3);
        due.is("kept: sitting()", 1, x.sitting());
        due.is("kept: led(0)", 1, x.led(0));
        due.is("kept: said(0)", 3, x.said(0));
    }

    @Says("WORDS that are not dead and do not SIT have one term more out of season,")
    static void termIV_oneTermMoreOutOfSeason(Due due) {
        WordSeats x = after(0, Texts.LAWS);
        x.bill(2, 9);
        for (int terms = 1; terms <= 8; terms++) {
            x.term();
            int t = terms;
            due.row("word(w, 4), w ", Due.ints(0, t, t, 0, t, t, t, t), w -> x.word(w, 4));
        }
    }

    @Says("others none;")
    static void termIV_whoSitsHasNone(Due due) {
        WordSeats x = swing(9);
        x.term();
        x.term();
        due.is("word(1, 4)", 2, x.word(1, 4));
        x.need(0, 2);
        due.is("not yet: word(1, 4)", 2, x.word(1, 4));
        x.term();
        due.is("it sits: word(1, 4)", 0, x.word(1, 4));
        due.is("word(0, 4)", 1, x.word(0, 4));
        x.need(0, 1);
        x.term();
        due.is("from the first again: word(1, 4)", 1, x.word(1, 4));
    }

    @Says("others none;")
    static void termIV_whoIsDeadHasNone(Due due) {
        WordSeats x = Texts.buried();
        due.row("by the term it dies: word(w, 4), w ", Due.ints(0, 3, 3, 3), w -> x.word(w, 4));
        x.term();
        due.row("by the next: word(w, 4), w ", Due.ints(0, 0, 0, 0), w -> x.word(w, 4));
        due.row("dead as ever: word(w, 5), w ", Due.ints(0, 1, 1, 1), w -> x.word(w, 5));
    }

    @Says("who has as many as dies,")
    static void termIV_asManyAsDies(Due due) {
        for (int dies = 1; dies <= 9; dies++) {
            WordSeats x = swing(dies);
            for (int terms = 1; terms < dies; terms++) {
                x.term();
                due.is("dies " + dies + ", term " + terms + ": word(1, 5)", 0, x.word(1, 5));
            }
            x.term();
            due.is("dies " + dies + ": word(1, 5)", 1, x.word(1, 5));
            due.is("dies " + dies + ", who sits: word(0, 5)", 0, x.word(0, 5));
        }
    }

    @Says("or more,")
    static void termIV_orMore(Due due) {
        WordSeats x = after(0, Texts.SPOILT);
        x.term();
        x.term();
        x.bill(2, 1);
        due.row("not without a term: word(w, 5), w ", Due.ints(0, 0, 0, 0), w -> x.word(w, 5));
        x.bill(0, 2);
        x.term();
        due.is("sitting()", 4, x.sitting());
        due.row("word(w, 4), w ", Due.ints(1, 3, 0, 3), w -> x.word(w, 4));
        due.row("word(w, 5), w ", Due.ints(1, 1, 0, 1), w -> x.word(w, 5));
    }

    @Says("is dead then.")
    static void termIV_isDeadThen(Due due) {
        WordSeats x = Texts.buried();
        due.is("district(0, 1)", 1, x.district(0, 1));
        due.is("abstains(0)", 12, x.abstains(0));
        due.is("order(1, 0)", -1, x.order(1, 0));
        due.is("wins(0, 3)", 0, x.wins(0, 3));
        due.is("struck(0, 0)", -1, x.struck(0, 0));
        due.is("spoilers()", 0, x.spoilers());
        due.is("feint(1)", -1, x.feint(1));
        due.is("lists(3, 1)", 0, x.lists(3, 1));
        due.is("lists(3, 0)", 3, x.lists(3, 0));
        due.is("years(0, 1, 1)", 0, x.years(0, 1, 1));
        due.is("rigged(1)", 0, x.rigged(1));
        for (int speaker = 0; speaker < 4; speaker++) {
            x.need(speaker, 2);
        }
        due.is("liked by all: elected()", 0, x.elected());
        due.is("liked by all: term()", 0, x.term());
    }

    @Says("(Ahead of any TERM nobody sits;")
    static void termIV_aheadOfAnyNobodySits(Due due) {
        WordSeats x = after(0, Texts.LAWS);
        due.is("sitting()", 0, x.sitting());
        due.is("dumb()", 63, x.dumb());
        due.is("seats(0)", 0, x.seats(0));
        x.term();
        x.undo();
        due.is("taken back: sitting()", 0, x.sitting());
        due.is("taken back: dumb()", 63, x.dumb());
    }

    @Says("SITTING: who does since the latest one.)")
    static void termIV_sittingSinceTheLatest(Due due) {
        WordSeats x = swing(9);
        x.term();
        due.is("sitting()", 1, x.sitting());
        x.need(0, 2);
        x.term();
        due.is("sitting()", 2, x.sitting());
        x.bill(1, 100);
        x.need(0, 3);
        x.term();
        due.is("sitting()", 1, x.sitting());
        due.is("said(1)", -1, x.said(1));
        due.is("said(0)", 3, x.said(0));
    }

    // promises 24 to 26

    @Says("SITTING, as bits.")
    static void promise24_whoSits(Due due) {
        WordSeats x = after(1, Texts.LAWS);
        due.is("sitting()", 9, x.sitting());
        x.bill(1, 100);
        x.term();
        due.is("nobody: sitting()", 0, x.sitting());
    }

    @Says("-2 likewise.")
    static void promise24_noChamber(Due due) {
        due.is("sitting()", -2, new WordSeats().sitting());
        due.is("bare: sitting()", 0, Town.bare().sitting());
    }

    @Says("TERM (IV): how many SIT.")
    static void promise25_howManySit(Due due) {
        WordSeats x = after(0, Texts.LAWS);
        x.bill(2, 9);
        due.is("term()", 2, x.term());
        due.is("count(8)", 1, x.count(8));
        x.bill(1, 40);
        due.is("bar 40: term()", 1, x.term());
        x.bill(1, 100);
        due.is("bar 100: term()", 0, x.term());
        due.is("count(8)", 3, x.count(8));
        due.is("no districts: term()", 0, Town.bare().term());
    }

    @Says("-5: there were 60;")
    static void promise25_thereWere60(Due due) {
        WordSeats x = after(0, Texts.LAWS);
        for (int i = 1; i <= 60; i++) {
            due.is("term() " + i, 2, x.term());
        }
        due.is("term() 61", -5, x.term());
        due.is("count(8)", 60, x.count(8));
        due.is("led(59)", 9, x.led(59));
        due.is("led(60)", -1, x.led(60));
        due.is("undo()", 59, x.undo());
        due.is("term() 60 again", 2, x.term());
        due.is("term() 61", -5, x.term());
        for (int i = 59; i >= 0; i--) {
            due.is("undo()", i, x.undo());
        }
        due.is("district(1, 1)", 248, x.district(1, 1));
    }

    /** Refused, a term changes nothing: word 1 has 60 terms of which none counts. */
    @Says("-5: there were 60;")
    static void promise25_refusedNothingHappens(Due due) {
        WordSeats x = swing(9);
        for (int i = 0; i < 60; i++) {
            x.need(0, i < 53 ? 1 + i % 2 : 1);
            x.term();
        }
        due.is("word(1, 4)", 8, x.word(1, 4));
        due.is("term()", -5, x.term());
        due.is("word(1, 4)", 8, x.word(1, 4));
        due.is("word(1, 5)", 0, x.word(1, 5));
        due.is("sitting()", 1, x.sitting());
    }

    @Says("-2: there is no CHAMBER.")
    static void promise25_noChamber(Due due) {
        WordSeats x = new WordSeats();
        due.is("term()", -2, x.term());
        due.is("count(8)", 0, x.count(8));
    }

    @Says("The latest TERM is taken back:")
    static void promise26_theLatestIsTakenBack(Due due) {
        WordSeats x = after(2, Texts.SPOILT);
        x.need(0, 2);
        x.term();
        due.is("sitting()", 2, x.sitting());
        due.row("word(w, 4), w ", Due.ints(1, 0, 3, 3), w -> x.word(w, 4));
        due.row("word(w, 5), w ", Due.ints(0, 0, 1, 1), w -> x.word(w, 5));
        x.undo();
        due.is("taken back: sitting()", 1, x.sitting());
        due.row("taken back: word(w, 4), w ", Due.ints(0, 2, 2, 2), w -> x.word(w, 4));
        due.row("taken back: word(w, 5), w ", Due.ints(0, 0, 0, 0), w -> x.word(w, 5));
        due.is("taken back: led(2)", -1, x.led(2));
        due.is("as it was: led(1)", 1, x.led(1));
        due.is("no part of it: speaker(0, 3)", 2, x.speaker(0, 3));
    }

    /** The dead have none by the term behind, and what they had is theirs again when that is taken back. */
    @Says("The latest TERM is taken back:")
    static void promise26_deathsAreTakenBackOneByOne(Due due) {
        WordSeats x = after(4, Texts.SPOILT);
        due.is("word(1, 4)", 0, x.word(1, 4));
        x.undo();
        due.is("word(1, 4)", 3, x.word(1, 4));
        due.is("word(1, 5)", 1, x.word(1, 5));
        x.undo();
        due.is("word(1, 4)", 2, x.word(1, 4));
        due.is("word(1, 5)", 0, x.word(1, 5));
        due.is("votes(1)", 5, x.votes(1));
        x.term();
        due.is("held again: word(1, 5)", 1, x.word(1, 5));
    }

    @Says("how many there are.")
    static void promise26_howManyThereAre(Due due) {
        WordSeats x = after(3, Texts.LAWS);
        due.is("undo()", 2, x.undo());
        due.is("undo()", 1, x.undo());
        due.is("count(8)", 1, x.count(8));
        due.is("undo()", 0, x.undo());
        due.is("sitting()", 0, x.sitting());
    }

    @Says("-5: there is none;")
    static void promise26_thereIsNone(Due due) {
        WordSeats x = after(0, Texts.LAWS);
        due.is("undo()", -5, x.undo());
        x.term();
        x.undo();
        due.is("all taken back: undo()", -5, x.undo());
        due.is("count(8)", 0, x.count(8));
        due.is("as it was: term()", 2, x.term());
    }

    @Says("-2 likewise.")
    static void promise26_noChamber(Due due) {
        due.is("undo()", -2, new WordSeats().undo());
    }

    // promises 27 and 28

    @Says("Who sat by TERM i (from 0), as bits.")
    static void promise27_whoSat(Due due) {
        WordSeats x = after(0, Texts.LAWS);
        x.bill(2, 9);
        int[] laws = {0, 3, 1, 0};
        for (int law : laws) {
            x.bill(0, law);
            x.term();
        }
        x.bill(1, 100);
        x.term();
        due.row("led(", Due.ints(9, 36, 10, 9, 0), x::led);
        x.undo();
        x.undo();
        x.bill(1, 0);
        x.bill(0, 3);
        x.term();
        due.row("another fourth: led(", Due.ints(9, 36, 10, 36, -1), x::led);
    }

    @Says("NONE: there is none such;")
    static void promise27_noneSuch(Due due) {
        WordSeats x = after(0, Texts.LAWS);
        due.all("led(", -1, x::led, -1, 0, 1, 59, 60, FAR, FAR_BELOW);
        x.term();
        x.term();
        due.all("led(", -1, x::led, -1, 2, 3, 59, 60, FAR, FAR_BELOW);
        x.undo();
        due.is("taken back: led(1)", -1, x.led(1));
    }

    @Says("-2 likewise.")
    static void promise27_noChamber(Due due) {
        due.all("led(", -2, new WordSeats()::led, -1, 0, 1, 60);
    }

    @Says("In how many TERMS more (1 .. 60),")
    static void promise28_inHowManyTerms(Due due) {
        for (int dies = 1; dies <= 9; dies++) {
            WordSeats x = swing(dies);
            for (int more = dies; more >= 1; more--) {
                due.is("dies " + dies + ": dies()", more, x.dies());
                due.is("asked alone: count(8)", dies - more, x.count(8));
                x.term();
            }
            due.is("dies " + dies + ": word(1, 5)", 1, x.word(1, 5));
        }
        WordSeats lowered = swing(9);
        lowered.term();
        lowered.term();
        lowered.bill(2, 1);
        due.is("above dies already: dies()", 1, lowered.dies());
    }

    @Says("all as it is,")
    static void promise28_allAsItIs(Due due) {
        WordSeats x = swing(3);
        x.term();
        x.term();
        due.is("dies()", 1, x.dies());
        x.need(0, 2);
        due.is("the other sits then: dies()", 3, x.dies());
        x.bill(1, 100);
        x.need(0, 1);
        due.is("barely enough: dies()", 1, x.dies());
        WordSeats barred = Town.of(2).dies(4).bar(51).district(1).word(3, 0, 0, 0).word(3, 0, 0, 1)
            .speaker(0, 1, 0).speaker(0, 1, 1).open();
        due.is("nobody sits: dies()", 4, barred.dies());
        due.is("nothing happens: word(0, 4)", 0, barred.word(0, 4));
    }

    /** Words 2 and 3 die by the third term; then word 0, which has one of three by then. */
    @Says("the first WORD (more) dies.")
    static void promise28_theFirstWordMore(Due due) {
        WordSeats x = after(2, Texts.SPOILT);
        x.need(0, 2);
        due.is("dies()", 1, x.dies());
        x.term();
        due.row("word(w, 5), w ", Due.ints(0, 0, 1, 1), w -> x.word(w, 5));
        due.is("dies()", 2, x.dies());
        x.term();
        due.is("dies()", 1, x.dies());
        x.term();
        due.is("word(0, 5)", 1, x.word(0, 5));
        due.is("dies()", -1, x.dies());
    }

    @Says("NONE: none does;")
    static void promise28_noneDoes(Due due) {
        due.is("all others are dead: dies()", -1, Texts.buried().dies());
        due.is("one alone sits: dies()", -1, Town.of(1).dies(1).district(1).word(1, 0, 0, 0).speaker(0, 1, 0).open().dies());
        due.is("no words: dies()", -1, Town.bare().dies());
    }

    @Says("-2 likewise.")
    static void promise28_noChamber(Due due) {
        due.is("dies()", -2, new WordSeats().dies());
    }
}
