/** Term VI and promises 44 to 51: parties' power, coalitions, lists, districts drawn for a party. */
final class PartyTest {
    private static final int FAR = Integer.MAX_VALUE;
    private static final int FAR_BELOW = Integer.MIN_VALUE;

    public static void main(String[] args) {
        Suite.run(PartyTest.class);
    }

    /** One word for each of four districts, of parties 0 to 3, with 40, 30, 20 and 10 votes. */
    private static Town four(int... seats) {
        Town town = Town.of(1);
        for (int district = 0; district < 4; district++) {
            town.district(seats[district]);
        }
        for (int district = 0; district < 4; district++) {
            town.word(3, district, district, 0).speaker(district, 40 - 10 * district, 0);
        }
        return town;
    }

    /** Meaning 0 is party 0's, meaning 1 party 1's, in both districts. */
    private static Town two() {
        return Town.of(2).district(1).district(1).word(3, 0, 0, 0).word(3, 0, 1, 1).word(3, 1, 0, 0).word(3, 1, 1, 1)
            .speaker(0, 5, 0).speaker(0, 5, 0).speaker(1, 4, 1).speaker(1, 11, 1);
    }

    private static void put(Due due, WordSeats x, int party, int most, int... row) {
        due.is("rigged(" + party + ")", most, x.rigged(party));
        due.row("put(" + party + ", ", row, speaker -> x.put(party, speaker));
    }

    // Term VI

    @Says("PARTIES 0 .. 3 have the seats of DISTRICTS whose SITTING WORD is of theirs.")
    static void termVI_seatsOfDistrictsOfTheirSittingWords(Due due) {
        WordSeats x = four(4, 3, 2, 1).seated();
        due.row("seats(", Due.ints(4, 3, 2, 1, -2), x::seats);
        WordSeats one = Town.of(1).district(2).district(9).word(1, 0, 3, 0).word(1, 1, 3, 0).word(9, 1, 2, 0)
            .speaker(0, 1, 0).speaker(1, 1, 0).seated();
        due.row("word 1 does not sit: seats(", Due.ints(0, 0, 9, 2), one::seats);
    }

    @Says("MAJORITY: more than half")
    static void termVI_majorityIsMoreThanHalf(Due due) {
        WordSeats x = four(4, 3, 2, 1).seated();
        due.is("5 of 10: majority(9)", 0, x.majority(9));
        due.is("5 of 10: majority(6)", 0, x.majority(6));
        due.is("6 of 10: majority(5)", 1, x.majority(5));
        WordSeats odd = four(4, 3, 1, 1).seated();
        due.is("5 of 9: majority(9)", 1, odd.majority(9));
        due.is("4 of 9: majority(1)", 0, odd.majority(1));
    }

    /** In district 1 nobody stands; its 3 seats count all the same. */
    @Says("of the seats of all DISTRICTS.")
    static void termVI_majorityIsOfTheSeatsOfAllDistricts(Due due) {
        WordSeats x = four(4, 3, 2, 1).open();
        x.stand(1, 0);
        x.term();
        due.is("sitting()", 13, x.sitting());
        due.row("seats(", Due.ints(4, 0, 2, 1), x::seats);
        due.is("4 of 10: majority(1)", 0, x.majority(1));
        due.is("5 of 10: majority(9)", 0, x.majority(9));
        due.is("6 of 10: majority(5)", 1, x.majority(5));
    }

    /** Of 24 orders 10 are party 0's, 6 party 1's and 2's each, 2 party 3's. */
    @Says("SHARE: of all orders in which PARTIES may come, alike likely, the part in which it makes the MAJORITY.")
    static void termVI_shareOfOrders(Due due) {
        WordSeats x = four(4, 3, 2, 1).seated();
        due.row("share(p, 0), p ", Due.ints(5, 1, 1, 1), p -> x.share(p, 0));
        due.row("share(p, 1), p ", Due.ints(12, 4, 4, 12), p -> x.share(p, 1));
        WordSeats even = four(2, 2, 2, 2).seated();
        due.row("even: share(p, 0), p ", Due.ints(1, 1, 1, 1), p -> even.share(p, 0));
        due.row("even: share(p, 1), p ", Due.ints(4, 4, 4, 4), p -> even.share(p, 1));
        // Party 0 has none of its own by itself, and none comes about without it.
        WordSeats veto = four(5, 3, 1, 1).seated();
        due.row("5 of 10: share(p, 0), p ", Due.ints(3, 1, 1, 1), p -> veto.share(p, 0));
        due.row("5 of 10: share(p, 1), p ", Due.ints(4, 12, 12, 12), p -> veto.share(p, 1));
    }

    @Says("FRACTIONS are told in lowest terms")
    static void termVI_fractionsInLowestTerms(Due due) {
        WordSeats all = four(9, 1, 1, 1).seated();
        due.is("24 of 24: share(0, 0)", 1, all.share(0, 0));
        due.is("24 of 24: share(0, 1)", 1, all.share(0, 1));
        WordSeats half = four(3, 1, 1, 1).seated();
        due.is("18 of 24: share(0, 0)", 3, half.share(0, 0));
        due.is("18 of 24: share(0, 1)", 4, half.share(0, 1));
        due.is("2 of 24: share(1, 0)", 1, half.share(1, 0));
        due.is("2 of 24: share(1, 1)", 12, half.share(1, 1));
        WordSeats third = four(2, 2, 1, 1).seated();
        due.is("8 of 24: share(0, 0)", 1, third.share(0, 0));
        due.is("8 of 24: share(0, 1)", 3, third.share(0, 1));
        due.is("4 of 24: share(2, 0)", 1, third.share(2, 0));
        due.is("4 of 24: share(2, 1)", 6, third.share(2, 1));
    }

    @Says("(0 / 1).")
    static void termVI_nothingIs0By1(Due due) {
        WordSeats x = four(4, 3, 2, 1).open();
        due.row("nobody sits: share(p, 0), p ", Due.ints(0, 0, 0, 0), p -> x.share(p, 0));
        due.row("nobody sits: share(p, 1), p ", Due.ints(1, 1, 1, 1), p -> x.share(p, 1));
        WordSeats all = four(9, 1, 1, 1).seated();
        due.is("of no weight: share(3, 0)", 0, all.share(3, 0));
        due.is("of no weight: share(3, 1)", 1, all.share(3, 1));
    }

    // promises 44 to 48

    @Says("Seats (VI) of a PARTY.")
    static void promise44_seats(Due due) {
        WordSeats x = four(9, 8, 7, 6).open();
        due.row("nobody sits: seats(", new int[4], x::seats);
        x.term();
        due.row("seats(", Due.ints(9, 8, 7, 6), x::seats);
        x.undo();
        due.row("taken back: seats(", new int[4], x::seats);
    }

    @Says("-2: there is none such,")
    static void promise44_noneSuch(Due due) {
        due.all("seats(", -2, four(4, 3, 2, 1).seated()::seats, -1, 4, FAR, FAR_BELOW);
    }

    @Says("no CHAMBER.")
    static void promise44_noChamber(Due due) {
        due.all("seats(", -2, new WordSeats()::seats, -1, 0, 3);
        due.is("no districts: seats(0)", 0, Town.bare().seats(0));
    }

    @Says("Whether a set of PARTIES (bits) has the MAJORITY: 1, 0.")
    static void promise45_whetherASetHasIt(Due due) {
        WordSeats x = four(4, 3, 2, 1).seated();
        due.row("majority(", Due.ints(0, 0, 0, 1, 0, 1, 0, 1, 0, 0, 0, 1, 0, 1, 1, 1), x::majority);
        due.is("nobody sits: majority(15)", 0, four(4, 3, 2, 1).open().majority(15));
        due.is("no districts: majority(15)", 0, Town.bare().majority(15));
    }

    @Says("-2: there is no such set,")
    static void promise45_noSuchSet(Due due) {
        due.all("majority(", -2, four(4, 3, 2, 1).seated()::majority, -1, 16, 17, FAR, FAR_BELOW);
    }

    @Says("no CHAMBER.")
    static void promise45_noChamber(Due due) {
        due.all("majority(", -2, new WordSeats()::majority, -1, 0, 15);
    }

    @Says("SHARE of a PARTY, above (what 0), below (1).")
    static void promise46_aboveAndBelow(Due due) {
        WordSeats x = four(4, 3, 2, 1).seated();
        due.row("share(0, ", Due.ints(5, 12), what -> x.share(0, what));
        due.row("share(3, ", Due.ints(1, 12), what -> x.share(3, what));
    }

    @Says("-2: there are none such,")
    static void promise46_noneSuch(Due due) {
        WordSeats x = four(4, 3, 2, 1).seated();
        due.all("share(0, ", -2, what -> x.share(0, what), -1, 2, FAR, FAR_BELOW);
        due.all("share(p, 0), p ", -2, p -> x.share(p, 0), -1, 4, FAR, FAR_BELOW);
        due.all("share(p, 1), p ", -2, p -> x.share(p, 1), -1, 4, FAR, FAR_BELOW);
    }

    @Says("no CHAMBER.")
    static void promise46_noChamber(Due due) {
        due.row("share(0, ", Due.ints(-2, -2), what -> new WordSeats().share(0, what));
    }

    @Says("The least set (fewest PARTIES,")
    static void promise47_fewestParties(Due due) {
        due.is("6 of 10: coalition()", 3, four(4, 3, 2, 1).seated().coalition());
        due.is("one alone: coalition()", 8, four(1, 1, 1, 9).seated().coalition());
        // Parties 0, 1 and 2 have 6 of 10 too, and come first by their bits.
        WordSeats x = four(4, 1, 1, 4).seated();
        due.is("majority(7)", 1, x.majority(7));
        due.is("two are fewer: coalition()", 9, x.coalition());
        due.is("three of four: coalition()", 7, four(1, 1, 1, 1).seated().coalition());
        WordSeats all = four(1, 1, 1, 9).open();
        all.stand(3, 0);
        all.term();
        due.is("none of 3 of 12: coalition()", -1, all.coalition());
    }

    @Says("then least bits) that has the MAJORITY.")
    static void promise47_leastBits(Due due) {
        due.is("parties 1 and 2, 1 and 3, 2 and 3: coalition()", 6, four(1, 3, 3, 3).seated().coalition());
        due.is("any two but 2 and 3: coalition()", 3, four(3, 3, 2, 2).seated().coalition());
    }

    @Says("NONE: none has;")
    static void promise47_noneHas(Due due) {
        due.is("nobody sits: coalition()", -1, four(4, 3, 2, 1).open().coalition());
        due.is("no districts: coalition()", -1, Town.bare().coalition());
    }

    @Says("-2: there is no CHAMBER.")
    static void promise47_noChamber(Due due) {
        due.is("coalition()", -2, new WordSeats().coalition());
    }

    @Says("PARTIES of a set without each of which alone it has no MAJORITY, as bits")
    static void promise48_withoutEachOfWhich(Due due) {
        WordSeats x = four(4, 3, 2, 1).seated();
        due.row("breaks(", Due.ints(0, 0, 0, 3, 0, 5, 0, 1, 0, 0, 0, 3, 0, 5, 14, 0), x::breaks);
        due.is("one has it all: breaks(15)", 1, four(9, 1, 1, 1).seated().breaks(15));
    }

    @Says("(0: it has none).")
    static void promise48_itHasNone(Due due) {
        WordSeats x = four(4, 3, 2, 1).seated();
        due.all("breaks(", 0, x::breaks, 0, 1, 2, 4, 6, 8, 9, 10, 12);
        due.is("nobody sits: breaks(15)", 0, four(4, 3, 2, 1).open().breaks(15));
    }

    @Says("-2: there is no such set,")
    static void promise48_noSuchSet(Due due) {
        due.all("breaks(", -2, four(4, 3, 2, 1).seated()::breaks, -1, 16, 17, FAR, FAR_BELOW);
    }

    @Says("no CHAMBER.")
    static void promise48_noChamber(Due due) {
        due.all("breaks(", -2, new WordSeats()::breaks, -1, 0, 15);
    }

    // promise 49

    @Says("LISTS: n (0 .. 20) seats, one by one,")
    static void promise49_seatsOneByOne(Due due) {
        WordSeats x = four(1, 1, 1, 1).open();
        int[][] lists = {{0, 0, 0, 0}, {1, 0, 0, 0}, {1, 1, 0, 0}, {2, 1, 0, 0}, {2, 1, 1, 0}, {2, 2, 1, 0},
            {3, 2, 1, 0}, {4, 2, 1, 0}, {4, 3, 1, 0}, {4, 3, 2, 0}, {4, 3, 2, 1}};
        for (int n = 0; n < lists.length; n++) {
            int seats = n;
            due.row("lists(" + n + ", ", lists[n], p -> x.lists(seats, p));
        }
        due.row("lists(20, ", Due.ints(8, 6, 4, 2), p -> x.lists(20, p));
        WordSeats one = Town.of(1).district(1).word(1, 0, 3, 0).speaker(0, 1, 0).open();
        due.row("one vote: lists(20, ", Due.ints(0, 0, 0, 20), p -> one.lists(20, p));
    }

    /** Party 0 has 5 and 5 first votes in two districts, of three words; party 1 has 15 by one. */
    @Says("to the PARTY with the greatest first votes of all its WORDS")
    static void promise49_firstVotesOfAllItsWords(Due due) {
        WordSeats x = Town.of(3).district(1).district(1).word(3, 0, 0, 0).word(3, 1, 0, 0).word(9, 1, 0, 2).word(3, 1, 1, 1)
            .speaker(0, 5, 0).speaker(1, 5, 2).speaker(1, 15, 1).open();
        due.row("15, 10, 7 and a half, 5: lists(1, ", Due.ints(0, 1), p -> x.lists(1, p));
        due.row("lists(2, ", Due.ints(1, 1), p -> x.lists(2, p));
        due.row("lists(3, ", Due.ints(1, 2), p -> x.lists(3, p));
        due.row("lists(5, ", Due.ints(2, 3), p -> x.lists(5, p));
        x.bill(0, 3);
        x.bill(1, 100);
        due.row("whatever the law: lists(5, ", Due.ints(2, 3), p -> x.lists(5, p));
        // Then party 0 has all of them, 25.
        x.need(2, 5);
        due.row("as all is now: lists(5, ", Due.ints(5, 0), p -> x.lists(5, p));
        x.need(2, 2);
        due.row("as all is now: lists(5, ", Due.ints(2, 3), p -> x.lists(5, p));
    }

    @Says("by its seats and one")
    static void promise49_byItsSeatsAndOne(Due due) {
        WordSeats x = Town.of(2).district(1).word(3, 0, 1, 0).word(3, 0, 2, 1).speaker(0, 99, 0).speaker(0, 34, 1).open();
        // 99, 49 and a half, 34, 33.
        due.row("lists(1, ", Due.ints(0, 1, 0), p -> x.lists(1, p));
        due.row("lists(2, ", Due.ints(0, 2, 0), p -> x.lists(2, p));
        due.row("lists(3, ", Due.ints(0, 2, 1), p -> x.lists(3, p));
        due.row("lists(4, ", Due.ints(0, 3, 1), p -> x.lists(4, p));
    }

    @Says("(of like ones the lesser):")
    static void promise49_ofLikeOnesTheLesser(Due due) {
        WordSeats x = Town.of(2).district(1).word(3, 0, 3, 0).word(9, 0, 2, 1).speaker(0, 10, 0).speaker(0, 10, 1).open();
        due.row("10 and 10: lists(1, ", Due.ints(0, 0, 1, 0), p -> x.lists(1, p));
        due.row("10 and 10: lists(2, ", Due.ints(0, 0, 1, 1), p -> x.lists(2, p));
        due.row("10 and 10: lists(3, ", Due.ints(0, 0, 2, 1), p -> x.lists(3, p));
        // 20 for two is as much as 10 for one.
        WordSeats half = Town.of(2).district(1).word(3, 0, 1, 0).word(9, 0, 3, 1).speaker(0, 10, 0).speaker(0, 20, 1).open();
        due.row("20 and 10: lists(2, ", Due.ints(0, 1, 0, 1), p -> half.lists(2, p));
    }

    @Says("how many a PARTY has then.")
    static void promise49_howManyAPartyHas(Due due) {
        WordSeats x = four(1, 1, 1, 1).open();
        for (int n = 0; n <= 20; n++) {
            int sum = 0;
            for (int party = 0; party < 4; party++) {
                sum += x.lists(n, party);
            }
            due.is("of all parties, lists(" + n + ", ..)", n, sum);
        }
    }

    @Says("0, if there are no votes;")
    static void promise49_noVotes(Due due) {
        WordSeats x = Town.of(2).district(1).word(1, 0, 0, 0).speaker(0, 9, 1).open();
        due.row("lists(20, ", Due.ints(0, 0, 0, 0), p -> x.lists(20, p));
        due.row("no words: lists(5, ", Due.ints(0, 0, 0, 0), p -> Town.bare().lists(5, p));
    }

    @Says("-2: there are none such,")
    static void promise49_noneSuch(Due due) {
        WordSeats x = four(1, 1, 1, 1).open();
        due.all("lists(n, 0), n ", -2, n -> x.lists(n, 0), -1, 21, FAR, FAR_BELOW);
        due.all("lists(1, ", -2, p -> x.lists(1, p), -1, 4, FAR, FAR_BELOW);
        due.all("lists(0, ", -2, p -> x.lists(0, p), -1, 4);
    }

    @Says("no CHAMBER.")
    static void promise49_noChamber(Due due) {
        due.is("lists(0, 0)", -2, new WordSeats().lists(0, 0));
        due.is("lists(4, 1)", -2, new WordSeats().lists(4, 1));
    }

    // promises 50 and 51

    @Says("DRAWN: each SPEAKER of the CHAMBER put to a DISTRICT anew")
    static void promise50_eachSpeakerPutAnew(Due due) {
        WordSeats x = two().open();
        due.is("as all is, one each: seated", 1, Integer.bitCount(x.elected() & 10));
        due.is("both by 11 against 10, 4 alone: rigged(1)", 2, x.rigged(1));
        due.is("rigged(0)", 1, x.rigged(0));
        due.row("all as ever: speaker(s, 0), s ", Due.ints(0, 0, 1, 1), s -> x.speaker(s, 0));
        due.is("nothing happens: elected()", 9, x.elected());
    }

    /** Both speakers in district 0 would do as well, and come first; but then district 1 has none. */
    @Says("(none without one),")
    static void promise50_noneWithoutOne(Due due) {
        WordSeats x = Town.of(2).district(1).district(1).word(1, 0, 0, 0).speaker(0, 1, 0).speaker(0, 1, 1).open();
        put(due, x, 0, 1, 0, 1);
        // Speakers 1 and 2 have 4 against 3; as one must go, it is speaker 0.
        WordSeats three = Town.of(2).district(1).district(1).word(1, 0, 0, 0).word(2, 0, 1, 1)
            .speaker(0, 3, 0).speaker(0, 2, 1).speaker(0, 2, 1).open();
        put(due, three, 1, 1, 1, 0, 0);
    }

    @Says("WORDS stay:")
    static void promise50_wordsStay(Due due) {
        // Party 0 has one word, so that it can have one district at most, and only where that stands.
        WordSeats x = Town.of(1).district(1).district(1).word(1, 1, 0, 0).speaker(0, 1, 0).speaker(0, 1, 0).speaker(0, 1, 0).open();
        put(due, x, 0, 1, 0, 0, 1);
        due.is("as ever: word(0, 1)", 1, x.word(0, 1));
        due.is("no words: rigged(3)", 0, x.rigged(3));
    }

    /** Six speakers need meanings of party 0 (votes 3, 3, 3) and of party 1 (votes 2, 2, 4). */
    @Says("in how many DISTRICTS WORDS of a PARTY can SIT at most")
    static void promise50_inHowManyAtMost(Due due) {
        WordSeats x = Town.of(2).district(1).district(1).district(1)
            .word(3, 0, 0, 0).word(4, 0, 1, 1).word(3, 1, 0, 0).word(4, 1, 1, 1).word(3, 2, 0, 0).word(4, 2, 1, 1)
            .speaker(0, 3, 0).speaker(0, 3, 0).speaker(0, 3, 0).speaker(0, 2, 1).speaker(0, 2, 1).speaker(0, 4, 1).open();
        // Party 0: 6 against 2 and 2, 3 alone; the 4 takes the third.
        put(due, x, 0, 2, 0, 0, 1, 0, 0, 2);
        // Party 1: 8 votes are fewer than 9, so that it never has all three.
        due.is("rigged(1)", 2, x.rigged(1));
        due.is("rigged(2)", 0, x.rigged(2));
    }

    @Says("by the law.")
    static void promise50_byTheLaw(Due due) {
        WordSeats x = two().open();
        x.bill(1, 60);
        // 11 of 21 are below the bar, and so are 5 and 4 of any.
        put(due, x, 1, 1, 0, 0, 0, 1);
        // By first word 0 has 3 of 7 votes; by the other laws word 1 has 4.
        WordSeats y = Town.of(3).district(1).word(5, 0, 0, 0).word(4, 0, 1, 1).word(3, 0, 1, 1, 2)
            .speaker(0, 3, 0).speaker(0, 2, 1).speaker(0, 2, 1, 2).open();
        int[] rigged = {0, 1, 1, 1};
        for (int law = 0; law < 4; law++) {
            y.bill(0, law);
            due.is("law " + law + ": rigged(1)", rigged[law], y.rigged(1));
        }
    }

    @Says("NONE: there are fewer SPEAKERS than DISTRICTS,")
    static void promise50_fewerSpeakersThanDistricts(Due due) {
        WordSeats x = Town.of(1).district(1).district(1).word(1, 0, 0, 0).speaker(0, 1, 0).open();
        due.is("1 and 2: rigged(0)", -1, x.rigged(0));
        WordSeats none = Town.of(1).district(1).open();
        due.is("0 and 1: rigged(0)", -1, none.rigged(0));
        WordSeats even = four(1, 1, 1, 1).open();
        due.is("4 and 4: rigged(0)", 1, even.rigged(0));
    }

    @Says("more than six SPEAKERS;")
    static void promise50_moreThanSixSpeakers(Due due) {
        Town town = Town.of(1).district(1).word(1, 0, 0, 0);
        for (int i = 0; i < 6; i++) {
            town.speaker(0, 1, 0);
        }
        due.is("six: rigged(0)", 1, town.open().rigged(0));
        for (int speakers = 7; speakers <= 9; speakers++) {
            town.speaker(0, 1, 0);
            due.is(speakers + ": rigged(0)", -1, town.open().rigged(0));
        }
    }

    @Says("-2: there is none such,")
    static void promise50_noneSuch(Due due) {
        due.all("rigged(", -2, two().open()::rigged, -1, 4, FAR, FAR_BELOW);
        due.is("seven speakers: rigged(4)", -2, Due.chamber(Texts.LAWS).rigged(4));
    }

    @Says("no DISTRICT.")
    static void promise50_noDistrict(Due due) {
        due.is("bare: rigged(0)", -2, Town.bare().rigged(0));
        due.is("no chamber: rigged(0)", -2, new WordSeats().rigged(0));
    }

    @Says("The DISTRICT of a SPEAKER by the first such row")
    static void promise51_byTheFirstRow(Due due) {
        put(due, two().open(), 0, 1, 0, 0, 0, 1);
        put(due, two().open(), 1, 2, 0, 0, 1, 0);
        // Word 1 of party 0 stands in district 1 alone: there it needs speaker 0.
        WordSeats last = Town.of(2).district(1).district(1).word(1, 0, 1, 0).word(1, 1, 0, 0).speaker(0, 1, 0).speaker(0, 1, 1).open();
        put(due, last, 0, 1, 1, 0);
        put(due, last, 1, 1, 0, 1);
        due.is("asked of at once: put(1, 2)", 1, two().open().put(1, 2));
        due.is("asked of at once: put(1, 3)", 0, two().open().put(1, 3));
        WordSeats one = Town.of(1).district(1).word(1, 0, 0, 0).speaker(0, 1, 0).speaker(0, 1, 0).open();
        due.row("one district: put(0, ", Due.ints(0, 0, -2), speaker -> one.put(0, speaker));
    }

    /** What was asked of one party is no answer for another, nor for what is changed since. */
    @Says("by the first such row")
    static void promise51_asAllIsNow(Due due) {
        WordSeats x = two().open();
        due.row("put(1, ", Due.ints(0, 0, 1, 0), speaker -> x.put(1, speaker));
        due.row("put(0, ", Due.ints(0, 0, 0, 1), speaker -> x.put(0, speaker));
        x.bill(1, 60);
        due.row("bar 60: put(1, ", Due.ints(0, 0, 0, 1), speaker -> x.put(1, speaker));
        x.bill(1, 0);
        x.need(0, 2);
        due.is("three of party 1: rigged(1)", 2, x.rigged(1));
        due.row("three of party 1: put(1, ", Due.ints(0, 0, 0, 1), speaker -> x.put(1, speaker));
    }

    @Says("(the least).")
    static void promise51_theLeastRow(Due due) {
        put(due, four(1, 1, 1, 1).open(), 0, 1, 0, 1, 2, 3);
        // Nothing to be had: the least row of all that leave no district without.
        put(due, two().open(), 2, 0, 0, 0, 0, 1);
        Town town = Town.of(1).district(1).district(1).district(1);
        for (int i = 0; i < 6; i++) {
            town.speaker(2, 1, 0);
        }
        put(due, town.open(), 0, 0, 0, 0, 0, 0, 1, 2);
    }

    @Says("NONE,")
    static void promise51_none(Due due) {
        due.is("seven speakers: put(0, 6)", -1, Due.chamber(Texts.LAWS).put(0, 6));
        WordSeats few = Town.of(1).district(1).district(1).speaker(0, 1, 0).open();
        due.is("fewer than districts: put(0, 0)", -1, few.put(0, 0));
    }

    @Says("-2 likewise,")
    static void promise51_noneSuchNoDistrict(Due due) {
        WordSeats x = two().open();
        due.all("put(p, 0), p ", -2, p -> x.put(p, 0), -1, 4, FAR, FAR_BELOW);
        due.is("bare: put(0, 0)", -2, Town.bare().put(0, 0));
        due.is("no chamber: put(0, 0)", -2, new WordSeats().put(0, 0));
    }

    @Says("no such SPEAKER.")
    static void promise51_noSuchSpeaker(Due due) {
        WordSeats x = two().open();
        due.all("put(0, ", -2, s -> x.put(0, s), -1, 4, 6, FAR, FAR_BELOW);
        due.is("seven speakers: put(0, 7)", -2, Due.chamber(Texts.LAWS).put(0, 7));
    }
}
