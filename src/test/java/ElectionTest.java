/** Term II and promises 6 to 23: who there is, who votes for whom, who sits by which law, who spoils. */
final class ElectionTest {
    private static final int[] ALL_LAWS = {0, 1, 2, 3};
    private static final int FAR = Integer.MAX_VALUE;
    private static final int FAR_BELOW = Integer.MIN_VALUE;

    public static void main(String[] args) {
        Suite.run(ElectionTest.class);
    }

    /** One speaker, whose order is 3, 1, 2, 0; word 4 is not liked, word 5 stands elsewhere. */
    private static WordSeats oneOrder() {
        return Town.of(4).dies(1).district(1).district(1)
            .word(3, 0, 0, 0).word(5, 0, 0, 0).word(5, 0, 0, 0).word(2, 0, 0, 0, 1).word(9, 0, 0, 3).word(9, 1, 0, 0, 1)
            .speaker(0, 1, 0, 1).open();
    }

    /** Two words with as many votes each, and no others. */
    private static WordSeats even(int letters, int otherLetters) {
        return Town.of(2).district(1).word(letters, 0, 0, 0).word(otherLetters, 0, 0, 1)
            .speaker(0, 4, 0).speaker(0, 4, 1).open();
    }

    // Term II: liking and orders

    @Says("A SPEAKER LIKES a WORD by how many of its needs that means")
    static void termII_likesByHowManyNeeds(Due due) {
        WordSeats x = Town.of(8).district(1).word(1, 0, 0, 0).word(1, 0, 0, 0, 1, 2, 3, 4, 5, 6, 7).word(1, 0, 0, 5, 6, 7)
            .speaker(0, 9, 0, 1, 5).speaker(0, 9, 0, 1, 2, 3, 4, 5, 6, 7).open();
        due.row("likes(0, ", Due.ints(1, 3, 1), w -> x.likes(0, w));
        due.row("likes(1, ", Due.ints(1, 8, 3), w -> x.likes(1, w));
    }

    @Says("(0: not at all).")
    static void termII_likesNotAtAll(Due due) {
        WordSeats x = oneOrder();
        due.is("likes(0, 4)", 0, x.likes(0, 4));
        x.need(0, 4);
        due.row("likes(0, ", new int[6], w -> x.likes(0, w));
        due.is("order(0, 0)", -1, x.order(0, 0));
        due.is("abstains(0)", 1, x.abstains(0));
    }

    @Says("Its ORDER: WORDS of its DISTRICT")
    static void termII_orderIsOfItsDistrict(Due due) {
        WordSeats x = oneOrder();
        due.row("order(0, ", Due.ints(3, 1, 2, 0, -1, -1), i -> x.order(0, i));
        x.stand(5, 0);
        due.row("with word 5: order(0, ", Due.ints(5, 3, 1, 2, 0, -1), i -> x.order(0, i));
    }

    @Says("that are not dead")
    static void termII_orderIsOfWhoIsNotDead(Due due) {
        WordSeats x = oneOrder();
        x.term();
        due.row("order(0, ", Due.ints(3, -1, -1), i -> x.order(0, i));
    }

    @Says("and that it LIKES,")
    static void termII_orderIsOfWhomItLikes(Due due) {
        WordSeats x = oneOrder();
        x.need(0, 8);
        due.row("order(0, ", Due.ints(4, -1, -1), i -> x.order(0, i));
        x.need(0, 4);
        due.row("nobody: order(0, ", Due.ints(-1, -1), i -> x.order(0, i));
    }

    @Says("by how much,")
    static void termII_orderByHowMuch(Due due) {
        WordSeats x = Town.of(4).district(1).word(12, 0, 0, 0).word(6, 0, 0, 0, 1).word(1, 0, 0, 0, 1, 2)
            .speaker(0, 1, 0, 1, 2).open();
        due.row("order(0, ", Due.ints(2, 1, 0, -1), i -> x.order(0, i));
    }

    @Says("of like ones the longer (letters),")
    static void termII_orderTheLongerAhead(Due due) {
        WordSeats x = Town.of(1).district(1).word(1, 0, 0, 0).word(12, 0, 0, 0).word(11, 0, 0, 0).speaker(0, 1, 0).open();
        due.row("order(0, ", Due.ints(1, 2, 0, -1), i -> x.order(0, i));
    }

    @Says("then the lesser number.")
    static void termII_orderTheLesserNumberAhead(Due due) {
        Town town = Town.of(1).district(1);
        for (int i = 0; i < 9; i++) {
            town.word(7, 0, 0, 0);
        }
        WordSeats x = town.speaker(0, 1, 0).open();
        due.row("order(0, ", Due.ints(0, 1, 2, 3, 4, 5, 6, 7, 8, -1), i -> x.order(0, i));
    }

    // Term II: the laws

    @Says("LAWS, each by WORDS of the DISTRICT")
    static void termII_lawsAreByWordsOfTheDistrict(Due due) {
        WordSeats x = Town.of(2).district(1).district(1).word(3, 0, 0, 0).word(9, 1, 0, 1)
            .speaker(0, 2, 0).speaker(0, 9, 1).open();
        due.all("wins(0, ", 0, law -> x.wins(0, law), ALL_LAWS);
        due.all("with(0, ", 2, law -> x.with(0, law), ALL_LAWS);
        due.all("wins(1, ", -1, law -> x.wins(1, law), ALL_LAWS);
        x.stand(1, 0);
        due.all("moved: wins(0, ", 1, law -> x.wins(0, law), ALL_LAWS);
    }

    @Says("that are not dead:")
    static void termII_lawsLeaveTheDeadOut(Due due) {
        WordSeats x = Town.of(2).dies(1).district(1).word(3, 0, 0, 0).word(4, 0, 0, 1).speaker(0, 2, 0).speaker(0, 1, 1).open();
        x.need(1, 3);
        x.term();
        due.is("word(1, 5)", 1, x.word(1, 5));
        due.all("wins(0, ", 0, law -> x.wins(0, law), ALL_LAWS);
        due.all("with(0, ", 3, law -> x.with(0, law), ALL_LAWS);
        x.need(0, 2);
        x.need(1, 2);
        due.all("the dead alone liked: wins(0, ", -1, law -> x.wins(0, law), ALL_LAWS);
    }

    @Says("FIRST: each SPEAKER gives its votes to the first of its ORDER;")
    static void termII_firstCountsTheFirstOfEachOrder(Due due) {
        WordSeats x = Town.of(3).district(1).word(3, 0, 0, 0, 1).word(9, 0, 0, 0).speaker(0, 5, 0, 1).speaker(0, 4, 0).open();
        due.is("wins(0, 0)", 0, x.wins(0, 0));
        due.is("with(0, 0)", 5, x.with(0, 0));
        due.row("votes(", Due.ints(5, 4), x::votes);
    }

    @Says("most votes.")
    static void termII_firstIsWhoHasMost(Due due) {
        WordSeats x = Town.of(2).district(1).word(9, 0, 0, 0).word(3, 0, 0, 1)
            .speaker(0, 5, 0).speaker(0, 3, 1).speaker(0, 3, 1).open();
        due.is("wins(0, 0)", 1, x.wins(0, 0));
        due.is("with(0, 0)", 6, x.with(0, 0));
    }

    @Says("RUNOFF: the two with most first votes;")
    static void termII_runoffIsOfTheTwoWithMost(Due due) {
        WordSeats x = Due.chamber(Texts.LAWS);
        // Word 2 is liked by all, but has fewest first votes.
        due.is("wins(0, 1)", 1, x.wins(0, 1));
        due.is("with(0, 1)", 12, x.with(0, 1));
        WordSeats one = Town.of(2).district(1).word(3, 0, 0, 0).speaker(0, 2, 0).speaker(0, 9, 1).open();
        due.is("one alone: wins(0, 1)", 0, one.wins(0, 1));
        due.is("one alone: with(0, 1)", 2, one.with(0, 1));
        // Word 0, which all like most, stands elsewhere.
        WordSeats elsewhere = Town.of(2).district(1).district(1).district(1).word(3, 0, 0, 0, 1).word(3, 1, 0, 0)
            .speaker(0, 2, 0).speaker(1, 2, 0, 1).speaker(2, 9, 0, 1).open();
        due.row("elsewhere: wins(d, 1), d ", Due.ints(0, 1, -1), d -> elsewhere.wins(d, 1));
        due.row("elsewhere: with(d, 1), d ", Due.ints(2, 2, -1), d -> elsewhere.with(d, 1));
    }

    /** Words 1 and 2 have 2 votes each: if word 2 comes to the runoff, speaker 1 gives it two more. */
    @Says({"RUNOFF: the two with most first votes;", "Of like ones (where it is not said) the longer, then the lesser number."})
    static void termII_runoffOfLikeSecondsTheLongerThenTheLesser(Due due) {
        for (int letters = 4; letters <= 6; letters++) {
            WordSeats x = Town.of(4).district(1).word(3, 0, 0, 0).word(letters, 0, 0, 1, 3).word(5, 0, 0, 2)
                .speaker(0, 3, 0).speaker(0, 2, 1, 3, 2).speaker(0, 2, 2).open();
            due.is(letters + " letters: wins(0, 1)", letters < 5 ? 2 : 0, x.wins(0, 1));
            due.is(letters + " letters: with(0, 1)", letters < 5 ? 4 : 3, x.with(0, 1));
        }
    }

    @Says("then each gives its votes to that of both it LIKES first;")
    static void termII_runoffEachGivesToThatItLikesFirst(Due due) {
        // Speaker 2 likes the longest word once, word 1 twice.
        WordSeats x = Town.of(5).district(1).word(12, 0, 0, 0).word(1, 0, 0, 0, 1).word(6, 0, 0, 2, 3, 4)
            .speaker(0, 5, 0).speaker(0, 4, 1).speaker(0, 2, 0, 1, 2, 3, 4).open();
        due.is("wins(0, 1)", 1, x.wins(0, 1));
        due.is("with(0, 1)", 6, x.with(0, 1));
        // Who likes neither gives none.
        WordSeats spoilt = Due.chamber(Texts.SPOILT);
        due.is("spoilt: wins(0, 1)", 0, spoilt.wins(0, 1));
        due.is("spoilt: with(0, 1)", 6, spoilt.with(0, 1));
    }

    @Says("LIKES first; most.")
    static void termII_runoffIsWhoHasMostThen(Due due) {
        WordSeats x = Due.chamber(Texts.LAWS);
        due.is("8 against 12: wins(0, 1)", 1, x.wins(0, 1));
        x.need(2, 3);
        due.is("13 against 7: wins(0, 1)", 0, x.wins(0, 1));
        due.is("13 against 7: with(0, 1)", 13, x.with(0, 1));
    }

    @Says("STRIKE: all give theirs to the first of their ORDER that is not struck;")
    static void termII_strikeGoesOnByOrders(Due due) {
        WordSeats x = Due.chamber(Texts.SPOILT);
        due.row("struck(0, ", Due.ints(3, 1, -1), i -> x.struck(0, i));
        due.is("wins(0, 2)", 2, x.wins(0, 2));
        due.is("with(0, 2)", 12, x.with(0, 2));
    }

    /** Word 0 has 5 of 10; when word 2 is struck, word 1 has 5 too and is the longer one. */
    @Says("who has more than half")
    static void termII_strikeHalfIsNotEnough(Due due) {
        Town town = Town.of(4).district(1).word(3, 0, 0, 0).word(5, 0, 0, 1).word(4, 0, 0, 2, 3);
        WordSeats x = town.speaker(0, 5, 0).speaker(0, 3, 1).speaker(0, 2, 1, 2, 3).open();
        due.row("struck(0, ", Due.ints(2, 0, -1), i -> x.struck(0, i));
        due.is("wins(0, 2)", 1, x.wins(0, 2));
        due.is("with(0, 2)", 5, x.with(0, 2));
        WordSeats more = Due.chamber(town.text().replace("votes 5", "votes 6"));
        due.is("6 of 11: struck(0, 0)", -1, more.struck(0, 0));
        due.is("6 of 11: wins(0, 2)", 0, more.wins(0, 2));
        due.is("6 of 11: with(0, 2)", 6, more.with(0, 2));
    }

    /** 3 of 7 given are not enough; when word 2 is struck, 3 of 5 are. 9 votes are never given. */
    @Says("of votes given then is it;")
    static void termII_strikeHalfOfVotesGivenThen(Due due) {
        WordSeats x = Town.of(4).district(1).word(5, 0, 0, 0).word(4, 0, 0, 1).word(3, 0, 0, 2)
            .speaker(0, 3, 0).speaker(0, 2, 1).speaker(0, 2, 2).speaker(0, 9, 3).open();
        due.row("struck(0, ", Due.ints(2, -1), i -> x.struck(0, i));
        due.is("wins(0, 2)", 0, x.wins(0, 2));
        due.is("with(0, 2)", 3, x.with(0, 2));
    }

    @Says("if none, the one with fewest is struck")
    static void termII_strikeTheFewest(Due due) {
        WordSeats x = Due.chamber(Texts.LAWS);
        due.row("struck(0, ", Due.ints(2, -1), i -> x.struck(0, i));
        due.row("struck(1, ", Due.ints(5, 6, 7, -1), i -> x.struck(1, i));
        WordSeats longest = Town.of(3).district(1).word(3, 0, 0, 0).word(12, 0, 0, 1).word(4, 0, 0, 2)
            .speaker(0, 4, 0).speaker(0, 1, 1).speaker(0, 3, 2).open();
        due.row("the longest has fewest: struck(0, ", Due.ints(1, -1), i -> longest.struck(0, i));
    }

    @Says("(of like ones the shorter,")
    static void termII_strikeOfLikeOnesTheShorter(Due due) {
        WordSeats x = even(3, 5);
        due.row("3 and 5: struck(0, ", Due.ints(0, -1), i -> x.struck(0, i));
        due.is("3 and 5: wins(0, 2)", 1, x.wins(0, 2));
        WordSeats y = even(6, 5);
        due.row("6 and 5: struck(0, ", Due.ints(1, -1), i -> y.struck(0, i));
        due.is("6 and 5: wins(0, 2)", 0, y.wins(0, 2));
    }

    @Says("then the greater number),")
    static void termII_strikeThenTheGreaterNumber(Due due) {
        WordSeats x = even(5, 5);
        due.row("struck(0, ", Due.ints(1, -1), i -> x.struck(0, i));
        due.is("wins(0, 2)", 0, x.wins(0, 2));
        Town town = Town.of(1).district(1);
        for (int i = 0; i < 9; i++) {
            town.word(i == 4 ? 6 : 5, 0, 0, 0);
        }
        WordSeats mute = town.open();
        due.row("no votes: struck(0, ", Due.ints(8, 7, 6, 5, 3, 2, 1, 0, -1), i -> mute.struck(0, i));
    }

    @Says("till one has")
    static void termII_strikeTillOneHas(Due due) {
        WordSeats x = Due.chamber(Texts.LAWS);
        // 12 of 20 for word 1: word 0 is struck no more.
        due.row("struck(0, ", Due.ints(2, -1, -1), i -> x.struck(0, i));
        x.need(2, 1);
        due.row("13 of 20 then: struck(0, ", Due.ints(2, -1), i -> x.struck(0, i));
        x.need(1, 1);
        due.is("speaker 2 likes word 2, the longest: votes(2)", 12, x.votes(2));
        due.is("12 of 20 at once: struck(0, 0)", -1, x.struck(0, 0));
    }

    @Says("or one alone is left.")
    static void termII_strikeTillOneAloneIsLeft(Due due) {
        WordSeats x = even(3, 5);
        due.row("struck(0, ", Due.ints(0, -1), i -> x.struck(0, i));
        due.is("with(0, 2)", 4, x.with(0, 2));
        WordSeats one = Town.of(2).district(1).word(3, 0, 0, 0).speaker(0, 1, 1).open();
        due.is("one without votes: struck(0, 0)", -1, one.struck(0, 0));
        due.is("one without votes: wins(0, 2)", -1, one.wins(0, 2));
        WordSeats mute = Town.of(2).district(1).word(3, 0, 0, 0).word(4, 0, 0, 0).word(2, 0, 0, 0).speaker(0, 1, 1).open();
        due.row("none has votes: struck(0, ", Due.ints(2, 0, -1), i -> mute.struck(0, i));
    }

    @Says("APPROVE: each gives its votes to all it LIKES;")
    static void termII_approveGivesToAllItLikes(Due due) {
        WordSeats x = Town.of(3).district(1).word(3, 0, 0, 0, 1).word(4, 0, 0, 1).word(9, 0, 0, 2)
            .speaker(0, 5, 0).speaker(0, 4, 1).speaker(0, 2, 1, 2).open();
        due.is("wins(0, 3)", 0, x.wins(0, 3));
        due.is("5, 4 and 2: with(0, 3)", 11, x.with(0, 3));
        // Who is liked twice is given votes once.
        WordSeats twice = Town.of(3).district(1).word(3, 0, 0, 0, 1).word(2, 0, 0, 2).speaker(0, 3, 0, 1).speaker(0, 4, 2).open();
        due.is("twice: wins(0, 3)", 1, twice.wins(0, 3));
        due.is("twice: with(0, 3)", 4, twice.with(0, 3));
    }

    @Says("all it LIKES; most.")
    static void termII_approveIsWhoHasMost(Due due) {
        WordSeats x = Town.of(3).district(1).word(12, 0, 0, 0).word(1, 0, 0, 1, 2).word(11, 0, 0, 2)
            .speaker(0, 5, 0).speaker(0, 3, 1).speaker(0, 3, 2).open();
        due.is("6 against 5 and 3: wins(0, 3)", 1, x.wins(0, 3));
        due.is("with(0, 3)", 6, x.with(0, 3));
        due.is("by first: wins(0, 0)", 0, x.wins(0, 0));
    }

    @Says("Of like ones (where it is not said) the longer, then the lesser number.")
    static void termII_ofLikeOnesTheLonger(Due due) {
        due.all("3 and 5: wins(0, ", 1, law -> even(3, 5).wins(0, law), ALL_LAWS);
        due.all("5 and 3: wins(0, ", 0, law -> even(5, 3).wins(0, law), ALL_LAWS);
        due.all("11 and 12: sits(0, ", 1, law -> even(11, 12).sits(0, law), ALL_LAWS);
        due.all("3 and 5: with(0, ", 4, law -> even(3, 5).with(0, law), ALL_LAWS);
    }

    @Says("Of like ones (where it is not said) the longer, then the lesser number.")
    static void termII_ofLikeOnesThenTheLesserNumber(Due due) {
        due.all("5 and 5: wins(0, ", 0, law -> even(5, 5).wins(0, law), ALL_LAWS);
        WordSeats three = Town.of(3).district(1).word(3, 0, 0, 0).word(5, 0, 0, 1).word(5, 0, 0, 2)
            .speaker(0, 2, 0).speaker(0, 2, 1).speaker(0, 2, 2).open();
        due.all("3, 5 and 5: wins(0, ", 1, law -> three.wins(0, law), ALL_LAWS);
        due.row("struck(0, ", Due.ints(0, 2, -1), i -> three.struck(0, i));
    }

    // Term II: who sits

    @Says("SITS: it, if it has any votes")
    static void termII_withoutVotesNobodySits(Due due) {
        WordSeats x = Town.of(2).bar(0).district(1).district(1).word(5, 0, 0, 0).word(4, 0, 0, 0).speaker(0, 9, 1).open();
        due.all("sits(0, ", -1, law -> x.sits(0, law), ALL_LAWS);
        due.all("nobody stands: sits(1, ", -1, law -> x.sits(1, law), ALL_LAWS);
        due.is("elected()", 0, x.elected());
        x.need(0, 1);
        due.all("any: sits(0, ", 0, law -> x.sits(0, law), ALL_LAWS);
    }

    /** Word 1 has 7 first votes of 20, but 12 in the end. */
    @Says("(in the end)")
    static void termII_votesInTheEndCount(Due due) {
        WordSeats x = Due.chamber(Texts.LAWS);
        x.bill(1, 60);
        due.row("bar 60: sits(0, ", Due.ints(-1, 1, 1, 2), law -> x.sits(0, law));
        x.bill(1, 61);
        due.row("bar 61: sits(0, ", Due.ints(-1, -1, -1, 2), law -> x.sits(0, law));
    }

    @Says("and those are at least bar of a hundred")
    static void termII_atLeastTheBar(Due due) {
        WordSeats x = Due.chamber(Texts.LAWS);
        x.bill(1, 40);
        due.is("8 of 20, bar 40: sits(0, 0)", 0, x.sits(0, 0));
        x.bill(1, 41);
        due.is("8 of 20, bar 41: sits(0, 0)", -1, x.sits(0, 0));
        x.bill(1, 100);
        due.is("20 of 20, bar 100: sits(0, 3)", 2, x.sits(0, 3));
        // 6 of 18 are above 33 and below 34 of a hundred.
        x.bill(1, 33);
        due.is("6 of 18, bar 33: sits(1, 0)", 3, x.sits(1, 0));
        x.bill(1, 34);
        due.is("6 of 18, bar 34: sits(1, 0)", -1, x.sits(1, 0));
    }

    /** Word 0 has all 2 votes given, of 20 there and 99 elsewhere. */
    @Says("of votes of all SPEAKERS there")
    static void termII_theBarIsOfAllSpeakersThere(Due due) {
        WordSeats x = Town.of(2).district(1).district(1).word(5, 0, 0, 0)
            .speaker(0, 2, 0).speaker(0, 18, 1).speaker(1, 99, 0).open();
        x.bill(1, 10);
        due.all("bar 10: sits(0, ", 0, law -> x.sits(0, law), ALL_LAWS);
        x.bill(1, 11);
        due.all("bar 11: sits(0, ", -1, law -> x.sits(0, law), ALL_LAWS);
    }

    /** Speaker 1 never comes, and counts for the bar all the same. */
    @Says("(whether they come or not);")
    static void termII_theBarWhetherTheyComeOrNot(Due due) {
        WordSeats x = Town.of(1).bar(50).district(1).word(5, 0, 0, 0).comer(0, 4, 100, 0).comer(0, 4, 0, 0).open();
        due.is("4 of 8, bar 50: drawn(7, 0)", 0, x.drawn(7, 0));
        x.bill(1, 51);
        due.is("4 of 8, bar 51: drawn(7, 0)", -1, x.drawn(7, 0));
        due.is("8 of 8: sits(0, 0)", 0, x.sits(0, 0));
    }

    @Says("else nobody.")
    static void termII_elseNobody(Due due) {
        WordSeats x = Due.chamber(Texts.LAWS);
        x.bill(1, 41);
        due.is("word 0 wins, word 2 is no second: wins(0, 0)", 0, x.wins(0, 0));
        due.is("sits(0, 0)", -1, x.sits(0, 0));
        due.is("elected()", 0, x.elected());
        due.is("term()", 0, x.term());
    }

    // promises 6 to 8

    @Says("Of a WORD, what 0: letters,")
    static void promise6_letters(Due due) {
        WordSeats x = Due.chamber(Texts.LAWS);
        due.row("word(w, 0), w ", Due.ints(3, 4, 5, 9, 8, 2, 6, 7), w -> x.word(w, 0));
    }

    @Says("1: DISTRICT,")
    static void promise6_district(Due due) {
        WordSeats x = Due.chamber(Texts.LAWS);
        due.row("word(w, 1), w ", Due.ints(0, 0, 0, 1, 1, 1, 1, 1), w -> x.word(w, 1));
    }

    @Says("2: PARTY,")
    static void promise6_party(Due due) {
        WordSeats x = Due.chamber(Texts.LAWS);
        due.row("word(w, 2), w ", Due.ints(0, 1, 2, 0, 1, 3, 2, 2), w -> x.word(w, 2));
    }

    @Says("3: MEANINGS, as bits,")
    static void promise6_meanings(Due due) {
        WordSeats x = Due.chamber(Texts.LAWS);
        due.row("word(w, 3), w ", Due.ints(3, 6, 5, 8, 16, 56, 32, 32), w -> x.word(w, 3));
    }

    @Says("4: terms out of season,")
    static void promise6_termsOutOfSeason(Due due) {
        WordSeats x = Due.chamber(Texts.SPOILT);
        for (int terms = 0; terms <= 3; terms++) {
            due.is("word(0, 4)", 0, x.word(0, 4));
            due.is("word(1, 4)", terms, x.word(1, 4));
            x.term();
        }
    }

    @Says("5: 1 if it is dead, else 0.")
    static void promise6_dead(Due due) {
        WordSeats x = Due.chamber(Texts.SPOILT);
        x.term();
        x.term();
        due.row("word(w, 5), w ", Due.ints(0, 0, 0, 0), w -> x.word(w, 5));
        x.term();
        due.row("word(w, 5), w ", Due.ints(0, 1, 1, 1), w -> x.word(w, 5));
    }

    @Says("-2: there are none such.")
    static void promise6_noneSuch(Due due) {
        WordSeats x = Due.chamber(Texts.LAWS);
        due.all("word(7, ", -2, what -> x.word(7, what), -1, 6, 7, FAR, FAR_BELOW);
        for (int what = 0; what < 6; what++) {
            int w = what;
            due.all("word(w, " + what + "), w ", -2, word -> x.word(word, w), -1, 8, 9, FAR, FAR_BELOW);
        }
        due.is("no chamber: word(0, 0)", -2, new WordSeats().word(0, 0));
        due.is("no words: word(0, 0)", -2, Town.bare().word(0, 0));
    }

    @Says("Of a SPEAKER, what 0: DISTRICT,")
    static void promise7_district(Due due) {
        WordSeats x = Due.chamber(Texts.LAWS);
        due.row("speaker(s, 0), s ", Due.ints(0, 0, 0, 1, 1, 1, 1), s -> x.speaker(s, 0));
    }

    @Says("1: votes,")
    static void promise7_votes(Due due) {
        WordSeats x = Due.chamber(Texts.LAWS);
        due.row("speaker(s, 1), s ", Due.ints(8, 7, 5, 6, 5, 4, 3), s -> x.speaker(s, 1));
    }

    @Says("2: comes,")
    static void promise7_comes(Due due) {
        WordSeats x = Due.chamber(Texts.LAWS);
        due.row("speaker(s, 2), s ", Due.ints(100, 60, 0, 100, 50, 50, 100), s -> x.speaker(s, 2));
    }

    @Says("3: needs, as bits.")
    static void promise7_needs(Due due) {
        WordSeats x = Due.chamber(Texts.LAWS);
        due.row("speaker(s, 3), s ", Due.ints(3, 6, 5, 8, 16, 32, 1), s -> x.speaker(s, 3));
    }

    @Says("-2: there are none such.")
    static void promise7_noneSuch(Due due) {
        WordSeats x = Due.chamber(Texts.LAWS);
        due.all("speaker(6, ", -2, what -> x.speaker(6, what), -1, 4, 5, FAR, FAR_BELOW);
        due.all("speaker(s, 0), s ", -2, s -> x.speaker(s, 0), -1, 7, 8, FAR, FAR_BELOW);
        due.is("no chamber: speaker(0, 0)", -2, new WordSeats().speaker(0, 0));
        due.is("no speakers: speaker(0, 0)", -2, Town.bare().speaker(0, 0));
    }

    @Says("Of a DISTRICT, what 0: seats,")
    static void promise8_seats(Due due) {
        WordSeats x = Due.chamber(Texts.LAWS);
        due.row("district(d, 0), d ", Due.ints(3, 4), d -> x.district(d, 0));
    }

    @Says("1: WORDS that stand there")
    static void promise8_wordsThatStandThere(Due due) {
        WordSeats x = Due.chamber(Texts.LAWS);
        due.row("district(d, 1), d ", Due.ints(7, 248), d -> x.district(d, 1));
        x.stand(7, 0);
        due.row("moved: district(d, 1), d ", Due.ints(135, 120), d -> x.district(d, 1));
        due.is("nobody: district(0, 1)", 0, Town.of(1).district(1).open().district(0, 1));
    }

    @Says("(not dead), as bits,")
    static void promise8_theDeadDoNotStand(Due due) {
        due.is("district(0, 1)", 1, Texts.buried().district(0, 1));
    }

    @Says("2: votes of all its SPEAKERS.")
    static void promise8_votesOfAllItsSpeakers(Due due) {
        WordSeats x = Due.chamber(Texts.LAWS);
        due.row("district(d, 2), d ", Due.ints(20, 18), d -> x.district(d, 2));
        Town full = Town.of(1).district(1).district(1);
        for (int i = 0; i < 9; i++) {
            full.comer(1, 99, 0, 0);
        }
        due.is("district(0, 2)", 0, full.open().district(0, 2));
        due.is("district(1, 2)", 891, full.open().district(1, 2));
    }

    @Says("-2: there are none such.")
    static void promise8_noneSuch(Due due) {
        WordSeats x = Due.chamber(Texts.LAWS);
        due.all("district(1, ", -2, what -> x.district(1, what), -1, 3, 4, FAR, FAR_BELOW);
        due.all("district(d, 0), d ", -2, d -> x.district(d, 0), -1, 2, 3, FAR, FAR_BELOW);
        due.is("no chamber: district(0, 0)", -2, new WordSeats().district(0, 0));
        due.is("no districts: district(0, 0)", -2, Town.bare().district(0, 0));
    }

    // promises 9 to 12

    @Says("How much a SPEAKER LIKES a WORD")
    static void promise9_howMuch(Due due) {
        WordSeats x = Due.chamber(Texts.LAWS);
        due.row("likes(0, ", Due.ints(2, 1, 1), w -> x.likes(0, w));
        due.row("likes(1, ", Due.ints(1, 2, 1), w -> x.likes(1, w));
        due.row("likes(5, ", Due.ints(0, 0, 0, 0, 0, 1, 1, 1), w -> x.likes(5, w));
        x.need(5, 63);
        due.row("of all needs: likes(5, ", Due.ints(2, 2, 2, 1, 1, 3, 1, 1), w -> x.likes(5, w));
    }

    @Says("(of whatever DISTRICT, dead or not).")
    static void promise9_ofWhateverDistrictDeadOrNot(Due due) {
        due.is("elsewhere: likes(6, 0)", 1, Due.chamber(Texts.LAWS).likes(6, 0));
        WordSeats x = Texts.buried();
        due.is("dead: word(1, 5)", 1, x.word(1, 5));
        due.row("dead: likes(1, ", Due.ints(0, 1, 1, 0), w -> x.likes(1, w));
    }

    @Says("-2: there are none such.")
    static void promise9_noneSuch(Due due) {
        WordSeats x = Due.chamber(Texts.LAWS);
        due.all("likes(s, 0), s ", -2, s -> x.likes(s, 0), -1, 7, FAR, FAR_BELOW);
        due.all("likes(0, ", -2, w -> x.likes(0, w), -1, 8, FAR, FAR_BELOW);
        due.is("no chamber: likes(0, 0)", -2, new WordSeats().likes(0, 0));
    }

    @Says("The i-th WORD (from 0) of a SPEAKER's ORDER.")
    static void promise10_theWordOfItsOrder(Due due) {
        WordSeats x = Due.chamber(Texts.LAWS);
        due.row("order(0, ", Due.ints(0, 2, 1), i -> x.order(0, i));
        due.row("order(1, ", Due.ints(1, 2, 0), i -> x.order(1, i));
        due.row("order(2, ", Due.ints(2, 1, 0), i -> x.order(2, i));
        due.row("order(5, ", Due.ints(7, 6, 5), i -> x.order(5, i));
    }

    @Says("NONE: there is none such;")
    static void promise10_noneSuch(Due due) {
        WordSeats x = Due.chamber(Texts.LAWS);
        due.all("order(0, ", -1, i -> x.order(0, i), -1, 3, 4, 9, FAR, FAR_BELOW);
        due.all("likes nobody: order(6, ", -1, i -> x.order(6, i), -1, 0, 1, FAR);
        WordSeats dead = Texts.buried();
        due.all("all liked are dead: order(1, ", -1, i -> dead.order(1, i), 0, 1);
        Town nine = Town.of(1).district(1);
        for (int i = 0; i < 9; i++) {
            nine.word(1, 0, 0, 0);
        }
        WordSeats all = nine.speaker(0, 1, 0).open();
        due.is("nine: order(0, 8)", 8, all.order(0, 8));
        due.all("nine: order(0, ", -1, i -> all.order(0, i), 9, 10, FAR);
    }

    @Says("-2: there is no such SPEAKER.")
    static void promise10_noSuchSpeaker(Due due) {
        WordSeats x = Due.chamber(Texts.LAWS);
        due.all("order(s, 0), s ", -2, s -> x.order(s, 0), -1, 7, FAR, FAR_BELOW);
        due.is("neither: order(7, -1)", -2, x.order(7, -1));
        due.is("no chamber: order(0, 0)", -2, new WordSeats().order(0, 0));
    }

    @Says("First votes of a WORD in its DISTRICT")
    static void promise11_firstVotes(Due due) {
        WordSeats x = Due.chamber(Texts.LAWS);
        due.row("votes(", Due.ints(8, 7, 5, 6, 5, 0, 0, 4), x::votes);
        // Speaker 6 of district 1 likes word 0 alone, which stands in district 0.
        x.bill(0, 3);
        due.is("by whatever law: votes(0)", 8, x.votes(0));
        x.stand(0, 1);
        due.is("moved: votes(0)", 3, x.votes(0));
    }

    @Says("(0: it is dead).")
    static void promise11_theDeadHave0(Due due) {
        WordSeats x = Texts.buried();
        due.row("votes(", Due.ints(6, 0, 0, 0, -2), x::votes);
    }

    @Says("-2: there is none such.")
    static void promise11_noneSuch(Due due) {
        WordSeats x = Due.chamber(Texts.LAWS);
        due.all("votes(", -2, x::votes, -1, 8, 9, FAR, FAR_BELOW);
        due.is("no chamber: votes(0)", -2, new WordSeats().votes(0));
    }

    @Says("Votes that are not given there at all")
    static void promise12_notGivenAtAll(Due due) {
        WordSeats x = Due.chamber(Texts.LAWS);
        due.row("abstains(", Due.ints(0, 3), x::abstains);
        // Speaker 5 may never come; that is not asked here.
        WordSeats away = Town.of(1).district(1).word(3, 0, 0, 0).comer(0, 9, 0, 0).open();
        due.is("comes 0: abstains(0)", 0, away.abstains(0));
    }

    @Says("(nobody LIKED).")
    static void promise12_nobodyLiked(Due due) {
        WordSeats dead = Texts.buried();
        due.is("the dead are not liked: abstains(0)", 12, dead.abstains(0));
        WordSeats x = Town.of(2).district(1).district(1).word(3, 1, 0, 0).speaker(0, 4, 0).speaker(0, 3, 1).speaker(1, 9, 1).open();
        due.row("abstains(", Due.ints(7, 9), x::abstains);
    }

    @Says("-2: there is no such DISTRICT.")
    static void promise12_noSuchDistrict(Due due) {
        WordSeats x = Due.chamber(Texts.LAWS);
        due.all("abstains(", -2, x::abstains, -1, 2, FAR, FAR_BELOW);
        due.is("no chamber: abstains(0)", -2, new WordSeats().abstains(0));
    }

    // promises 13 to 16

    @Says("Who wins a DISTRICT by a LAW (0 .. 3),")
    static void promise13_whoWins(Due due) {
        WordSeats x = Due.chamber(Texts.LAWS);
        due.row("wins(0, ", Due.ints(0, 1, 1, 2), law -> x.wins(0, law));
        due.row("wins(1, ", Due.ints(3, 3, 3, 5), law -> x.wins(1, law));
        x.bill(0, 3);
        due.row("by that law, not by the law: wins(0, ", Due.ints(0, 1, 1, 2), law -> x.wins(0, law));
    }

    @Says("bar aside.")
    static void promise13_barAside(Due due) {
        WordSeats x = Due.chamber(Texts.LAWS);
        x.bill(1, 100);
        due.row("bar 100: wins(0, ", Due.ints(0, 1, 1, 2), law -> x.wins(0, law));
        due.row("bar 100: wins(1, ", Due.ints(3, 3, 3, 5), law -> x.wins(1, law));
    }

    @Says("NONE: nobody has a vote;")
    static void promise13_nobodyHasAVote(Due due) {
        WordSeats x = Town.of(2).district(1).district(1).district(1)
            .word(3, 1, 0, 0).word(3, 1, 0, 0).word(5, 1, 0, 0).word(2, 2, 0, 0).speaker(2, 9, 1).open();
        for (int district = 0; district < 3; district++) {
            int d = district;
            due.all("wins(" + district + ", ", -1, law -> x.wins(d, law), ALL_LAWS);
        }
    }

    @Says("-2: there are none such.")
    static void promise13_noneSuch(Due due) {
        WordSeats x = Due.chamber(Texts.LAWS);
        due.all("wins(d, 0), d ", -2, d -> x.wins(d, 0), -1, 2, FAR, FAR_BELOW);
        due.all("wins(0, ", -2, law -> x.wins(0, law), -1, 4, FAR, FAR_BELOW);
        due.is("no chamber: wins(0, 0)", -2, new WordSeats().wins(0, 0));
    }

    @Says("Who SITS there by it.")
    static void promise14_whoSits(Due due) {
        WordSeats x = Due.chamber(Texts.LAWS);
        due.row("sits(0, ", Due.ints(0, 1, 1, 2), law -> x.sits(0, law));
        due.row("sits(1, ", Due.ints(3, 3, 3, 5), law -> x.sits(1, law));
        due.is("nothing happens: sitting()", 0, x.sitting());
    }

    @Says("NONE: nobody;")
    static void promise14_nobody(Due due) {
        WordSeats x = Due.chamber(Texts.LAWS);
        x.bill(1, 61);
        due.row("bar 61: sits(0, ", Due.ints(-1, -1, -1, 2), law -> x.sits(0, law));
        due.row("bar 61: sits(1, ", Due.ints(-1, -1, -1, 5), law -> x.sits(1, law));
        due.is("nobody stands: sits(0, 0)", -1, Town.of(1).district(1).open().sits(0, 0));
    }

    @Says("-2 likewise.")
    static void promise14_noneSuch(Due due) {
        WordSeats x = Due.chamber(Texts.LAWS);
        due.all("sits(d, 0), d ", -2, d -> x.sits(d, 0), -1, 2, FAR, FAR_BELOW);
        due.all("sits(0, ", -2, law -> x.sits(0, law), -1, 4, FAR, FAR_BELOW);
        due.is("no chamber: sits(0, 0)", -2, new WordSeats().sits(0, 0));
    }

    @Says("With how many votes (in the end) one wins by it.")
    static void promise15_withHowMany(Due due) {
        WordSeats x = Due.chamber(Texts.LAWS);
        due.row("with(0, ", Due.ints(8, 12, 12, 20), law -> x.with(0, law));
        due.row("with(1, ", Due.ints(6, 6, 6, 15), law -> x.with(1, law));
        x.bill(1, 100);
        due.row("bar aside: with(0, ", Due.ints(8, 12, 12, 20), law -> x.with(0, law));
    }

    @Says("NONE,")
    static void promise15_nobodyHasAVote(Due due) {
        WordSeats x = Town.of(2).district(1).district(1).word(3, 0, 0, 0).word(4, 0, 0, 0).speaker(0, 9, 1).open();
        due.all("with(0, ", -1, law -> x.with(0, law), ALL_LAWS);
        due.all("with(1, ", -1, law -> x.with(1, law), ALL_LAWS);
    }

    @Says("-2 likewise.")
    static void promise15_noneSuch(Due due) {
        WordSeats x = Due.chamber(Texts.LAWS);
        due.all("with(d, 0), d ", -2, d -> x.with(d, 0), -1, 2, FAR, FAR_BELOW);
        due.all("with(0, ", -2, law -> x.with(0, law), -1, 4, FAR, FAR_BELOW);
        due.is("no chamber: with(0, 0)", -2, new WordSeats().with(0, 0));
    }

    @Says("STRIKE: the i-th WORD (from 0) that is struck.")
    static void promise16_whoIsStruck(Due due) {
        WordSeats x = Due.chamber(Texts.LAWS);
        due.is("struck(0, 0)", 2, x.struck(0, 0));
        due.row("struck(1, ", Due.ints(5, 6, 7), i -> x.struck(1, i));
        x.bill(0, 3);
        due.is("whatever the law is: struck(0, 0)", 2, x.struck(0, 0));
    }

    @Says("NONE: there is none such;")
    static void promise16_noneSuch(Due due) {
        WordSeats x = Due.chamber(Texts.LAWS);
        due.all("struck(0, ", -1, i -> x.struck(0, i), -1, 1, 2, FAR, FAR_BELOW);
        due.all("struck(1, ", -1, i -> x.struck(1, i), -1, 3, 9, FAR, FAR_BELOW);
        due.is("nobody stands: struck(0, 0)", -1, Town.of(1).district(1).open().struck(0, 0));
    }

    @Says("-2: there is no such DISTRICT.")
    static void promise16_noSuchDistrict(Due due) {
        WordSeats x = Due.chamber(Texts.LAWS);
        due.all("struck(d, 0), d ", -2, d -> x.struck(d, 0), -1, 2, FAR, FAR_BELOW);
        due.is("neither: struck(2, -1)", -2, x.struck(2, -1));
        due.is("no chamber: struck(0, 0)", -2, new WordSeats().struck(0, 0));
    }

    // promises 17 to 20

    @Says("Votes of SPEAKERS of their DISTRICT who have one WORD ahead of another one in their ORDER")
    static void promise17_oneAheadOfAnother(Due due) {
        WordSeats x = Due.chamber(Texts.LAWS);
        due.is("beats(0, 1)", 8, x.beats(0, 1));
        due.is("beats(1, 0)", 12, x.beats(1, 0));
        due.is("beats(0, 2)", 8, x.beats(0, 2));
        due.is("beats(2, 0)", 12, x.beats(2, 0));
        due.is("beats(1, 2)", 7, x.beats(1, 2));
        due.is("beats(2, 1)", 13, x.beats(2, 1));
        // Speakers of other districts do not count.
        x.need(6, 2);
        due.is("elsewhere: beats(1, 2)", 7, x.beats(1, 2));
    }

    @Says("(or have that alone).")
    static void promise17_thatAlone(Due due) {
        WordSeats x = Due.chamber(Texts.LAWS);
        due.is("beats(3, 5)", 6, x.beats(3, 5));
        due.is("beats(5, 3)", 9, x.beats(5, 3));
        WordSeats alone = Town.of(2).district(1).word(3, 0, 0, 0).word(9, 0, 0, 1).speaker(0, 7, 0).open();
        due.is("alone: beats(0, 1)", 7, alone.beats(0, 1));
        due.is("the other: beats(1, 0)", 0, alone.beats(1, 0));
        alone.need(0, 2);
        due.is("not at all: beats(0, 1)", 0, alone.beats(0, 1));
        due.is("the longer alone: beats(1, 0)", 7, alone.beats(1, 0));
        WordSeats neither = Town.of(3).district(1).word(3, 0, 0, 0).word(9, 0, 0, 1).speaker(0, 7, 2).open();
        due.is("neither: beats(0, 1)", 0, neither.beats(0, 1));
        due.is("neither: beats(1, 0)", 0, neither.beats(1, 0));
    }

    @Says("-2: there are none such,")
    static void promise17_noneSuch(Due due) {
        WordSeats x = Due.chamber(Texts.LAWS);
        due.all("beats(w, 0), w ", -2, w -> x.beats(w, 0), -1, 8, FAR, FAR_BELOW);
        due.all("beats(0, ", -2, w -> x.beats(0, w), -1, 8, FAR, FAR_BELOW);
        due.is("no chamber: beats(0, 1)", -2, new WordSeats().beats(0, 1));
    }

    @Says("one twice,")
    static void promise17_oneTwice(Due due) {
        WordSeats x = Due.chamber(Texts.LAWS);
        for (int w = 0; w < 8; w++) {
            due.is("beats(" + w + ", " + w + ")", -2, x.beats(w, w));
        }
    }

    @Says("not of one DISTRICT,")
    static void promise17_notOfOneDistrict(Due due) {
        WordSeats x = Due.chamber(Texts.LAWS);
        due.all("beats(0, ", -2, w -> x.beats(0, w), 3, 4, 5, 6, 7);
        due.all("beats(w, 0), w ", -2, w -> x.beats(w, 0), 3, 4, 5, 6, 7);
    }

    @Says("dead.")
    static void promise17_dead(Due due) {
        WordSeats x = Texts.buried();
        due.all("beats(0, ", -2, w -> x.beats(0, w), 1, 2, 3);
        due.all("beats(w, 0), w ", -2, w -> x.beats(w, 0), 1, 2, 3);
        due.is("both: beats(1, 2)", -2, x.beats(1, 2));
    }

    @Says("The WORD of a DISTRICT that has more so against each other one than that against it.")
    static void promise18_best(Due due) {
        WordSeats x = Due.chamber(Texts.LAWS);
        due.row("best(", Due.ints(2, 5), x::best);
        due.is("spoilt: best(0)", 2, Due.chamber(Texts.SPOILT).best(0));
        due.is("one alone: best(0)", 0, Town.of(1).district(1).word(3, 0, 0, 0).open().best(0));
        due.is("the dead are no others: best(0)", 0, Texts.buried().best(0));
    }

    /** In the ring each of three beats one; in the other two are even. */
    @Says("NONE: there is none;")
    static void promise18_none(Due due) {
        due.is("even: best(0)", -1, even(9, 3).best(0));
        WordSeats ring = Town.of(6).district(1).word(3, 0, 0, 0, 1, 3).word(3, 0, 0, 0, 2, 4).word(3, 0, 0, 1, 2, 5)
            .speaker(0, 3, 0, 3).speaker(0, 3, 2, 4).speaker(0, 3, 1, 5).open();
        due.row("ring: beats(0, 1 + ", Due.ints(6, 3), i -> ring.beats(0, 1 + i));
        due.row("ring: beats(1, 2 * ", Due.ints(3, 6), i -> ring.beats(1, 2 * i));
        due.row("ring: beats(2, ", Due.ints(6, 3), i -> ring.beats(2, i));
        due.is("ring: best(0)", -1, ring.best(0));
        due.is("nobody stands: best(0)", -1, Town.of(1).district(1).open().best(0));
        due.is("nobody votes: best(0)", -1, Town.of(1).district(1).word(3, 0, 0, 0).word(4, 0, 0, 0).open().best(0));
    }

    @Says("-2: there is no such DISTRICT.")
    static void promise18_noSuchDistrict(Due due) {
        WordSeats x = Due.chamber(Texts.LAWS);
        due.all("best(", -2, x::best, -1, 2, FAR, FAR_BELOW);
        due.is("no chamber: best(0)", -2, new WordSeats().best(0));
    }

    @Says("In how many DISTRICTS unlike WORDS")
    static void promise19_unlikeWords(Due due) {
        WordSeats x = Due.chamber(Texts.LAWS);
        due.row("unlike(0, ", Due.ints(0, 1, 1, 2), law -> x.unlike(0, law));
        due.row("unlike(3, ", Due.ints(2, 2, 2, 0), law -> x.unlike(3, law));
        due.is("unlike(1, 2)", 0, x.unlike(1, 2));
        due.is("no districts: unlike(0, 3)", 0, Town.bare().unlike(0, 3));
    }

    @Says("(or nobody) SIT by two LAWS.")
    static void promise19_orNobody(Due due) {
        WordSeats x = Due.chamber(Texts.LAWS);
        x.bill(1, 41);
        due.is("nobody and word 1, nobody and nobody: unlike(0, 1)", 1, x.unlike(0, 1));
        due.is("nobody and word 2, nobody and word 5: unlike(0, 3)", 2, x.unlike(0, 3));
        x.bill(1, 100);
        due.is("nobody and nobody: unlike(0, 1)", 0, x.unlike(0, 1));
    }

    @Says("-2: there are none such,")
    static void promise19_noneSuch(Due due) {
        WordSeats x = Due.chamber(Texts.LAWS);
        due.all("unlike(0, ", -2, law -> x.unlike(0, law), -1, 4, FAR, FAR_BELOW);
        due.all("unlike(law, 0), law ", -2, law -> x.unlike(law, 0), -1, 4, FAR, FAR_BELOW);
    }

    @Says("no CHAMBER.")
    static void promise19_noChamber(Due due) {
        due.all("unlike(0, ", -2, law -> new WordSeats().unlike(0, law), ALL_LAWS);
    }

    @Says("SYNONYMS: WORDS of a WORD's DISTRICT")
    static void promise20_ofItsDistrict(Due due) {
        WordSeats x = Due.chamber(Texts.LAWS);
        due.is("synonyms(6)", 128, x.synonyms(6));
        x.stand(7, 0);
        due.is("of another district: synonyms(6)", 0, x.synonyms(6));
    }

    @Says("(not dead,")
    static void promise20_notDead(Due due) {
        WordSeats x = Town.of(1).dies(1).district(1).word(9, 0, 0, 0).word(8, 0, 0, 0).word(7, 0, 0, 0).speaker(0, 1, 0).open();
        due.row("synonyms(", Due.ints(6, 5, 3), x::synonyms);
        x.term();
        due.is("the others are dead: synonyms(0)", 0, x.synonyms(0));
        due.row("the dead have those who are not: synonyms(", Due.ints(0, 1, 1, -2), x::synonyms);
    }

    @Says("it aside)")
    static void promise20_itAside(Due due) {
        due.is("synonyms(0)", 0, Town.of(1).district(1).word(9, 0, 0, 0).open().synonyms(0));
        WordSeats x = Due.chamber(Texts.LAWS);
        due.row("synonyms(", Due.ints(0, 0, 0, 0, 0, 0, 128, 64), x::synonyms);
    }

    @Says("with the same MEANINGS, as bits.")
    static void promise20_theSameMeanings(Due due) {
        WordSeats x = Town.of(2).district(1).word(1, 0, 0, 1, 0).word(2, 0, 1, 0, 1).word(3, 0, 0, 0).word(4, 0, 0, 0, 1, 0).open();
        due.row("synonyms(", Due.ints(10, 9, 0, 3), x::synonyms);
    }

    @Says("-2: there is none such.")
    static void promise20_noneSuch(Due due) {
        WordSeats x = Due.chamber(Texts.LAWS);
        due.all("synonyms(", -2, x::synonyms, -1, 8, FAR, FAR_BELOW);
        due.is("no chamber: synonyms(0)", -2, new WordSeats().synonyms(0));
    }

    // promises 21 to 23

    @Says("SPOILS: who would SIT in its DISTRICT by the law, if a WORD did not stand.")
    static void promise21_whoWouldSit(Due due) {
        WordSeats x = Due.chamber(Texts.SPOILT);
        due.row("spoils(", Due.ints(1, 2, 0, 2), x::spoils);
        x.bill(0, 3);
        due.row("approve: spoils(", Due.ints(2, 2, 0, 2), x::spoils);
        due.is("it stands as ever: votes(1)", 5, x.votes(1));
        due.row("two districts: spoils(", Due.ints(2, 2, 1, 5, 3, 3, 3, 3), Due.chamber(Texts.LAWS)::spoils);
    }

    @Says("NONE: nobody;")
    static void promise21_nobody(Due due) {
        WordSeats x = Due.chamber(Texts.SPOILT);
        x.bill(1, 34);
        due.is("bar 34: spoils(0)", -1, x.spoils(0));
        due.is("one alone: spoils(0)", -1, Texts.buried().spoils(0));
    }

    @Says("-2: there is none such,")
    static void promise21_noneSuch(Due due) {
        WordSeats x = Due.chamber(Texts.SPOILT);
        due.all("spoils(", -2, x::spoils, -1, 4, FAR, FAR_BELOW);
        due.is("no chamber: spoils(0)", -2, new WordSeats().spoils(0));
    }

    @Says("it is dead.")
    static void promise21_itIsDead(Due due) {
        WordSeats x = Texts.buried();
        due.all("spoils(", -2, x::spoils, 1, 2, 3);
    }

    @Says("WORDS without which another one than now SITS")
    static void promise22_withoutWhichAnotherSits(Due due) {
        WordSeats x = Due.chamber(Texts.SPOILT);
        due.is("spoilers()", 10, x.spoilers());
        // Nobody has half of the votes; without word 1 word 2 has.
        x.bill(1, 50);
        due.is("nobody sits now: spoilers()", 2, x.spoilers());
        WordSeats taken = Town.of(3).district(1).word(9, 0, 0, 0).word(3, 0, 0, 1).word(2, 0, 0, 0, 2)
            .speaker(0, 3, 0).speaker(0, 4, 1).speaker(0, 2, 2).open();
        due.is("word 0 takes from word 2: spoilers()", 1, taken.spoilers());
    }

    @Says("(neither it,")
    static void promise22_notTheOneThatSitsNow(Due due) {
        WordSeats x = Due.chamber(Texts.SPOILT);
        due.is("without word 2 as now: spoils(2)", 0, x.spoils(2));
        due.is("spoilers(), word 2", 0, x.spoilers() & 4);
    }

    /** By runoff word 0 has 6 of 20 against word 1; without that, 4 against word 2, which are below the bar. */
    @Says("nor nobody),")
    static void promise22_notNobody(Due due) {
        WordSeats x = Town.of(5).law("runoff").bar(30).district(1).word(5, 0, 0, 0).word(5, 0, 0, 1).word(5, 0, 0, 2, 3)
            .speaker(0, 4, 0).speaker(0, 3, 1).speaker(0, 2, 0, 2, 3).speaker(0, 11, 4).open();
        due.is("sits(0, 1)", 0, x.sits(0, 1));
        due.is("spoils(1)", -1, x.spoils(1));
        due.is("spoilers()", 0, x.spoilers());
        x.bill(1, 20);
        due.is("bar 20: spoils(1)", 0, x.spoils(1));
    }

    @Says("and that do not SIT themselves, as bits.")
    static void promise22_whoSitsIsNone(Due due) {
        WordSeats x = Due.chamber(Texts.SPOILT);
        due.is("spoils(0)", 1, x.spoils(0));
        due.is("word 0 sits: spoilers(), word 0", 0, x.spoilers() & 1);
        // Terms ask nothing here: who sits by the law now counts, not who is sitting.
        x.term();
        x.bill(0, 3);
        due.is("word 2 sits by approve: sits(0, 3)", 2, x.sits(0, 3));
        due.is("approve: spoilers()", 0, x.spoilers());
    }

    @Says("-2: there is no CHAMBER.")
    static void promise22_noChamber(Due due) {
        due.is("spoilers()", -2, new WordSeats().spoilers());
        due.is("no words: spoilers()", 0, Town.bare().spoilers());
    }

    @Says("Who would SIT in all DISTRICTS, were there an election by the law now, as bits.")
    static void promise23_whoWouldSit(Due due) {
        WordSeats x = Due.chamber(Texts.LAWS);
        due.is("elected()", 9, x.elected());
        x.bill(0, 1);
        due.is("runoff: elected()", 10, x.elected());
        x.bill(0, 3);
        due.is("approve: elected()", 36, x.elected());
        x.bill(1, 84);
        due.is("bar 84: elected()", 4, x.elected());
        due.is("nothing happens: sitting()", 0, x.sitting());
        due.is("no districts: elected()", 0, Town.bare().elected());
    }

    @Says("-2 likewise.")
    static void promise23_noChamber(Due due) {
        due.is("elected()", -2, new WordSeats().elected());
    }
}
