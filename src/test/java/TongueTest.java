/** Terms III and V, promises 29 to 43: what can be said and how dear, fewest words, cheapest houses, feints. */
final class TongueTest {
    private static final int FAR = Integer.MAX_VALUE;
    private static final int FAR_BELOW = Integer.MIN_VALUE;

    public static void main(String[] args) {
        Suite.run(TongueTest.class);
    }

    /** Words 0 (4 letters, means 0) and 2 (7, means 1 2) sit. */
    private static WordSeats twoSit() {
        WordSeats x = Due.chamber(Texts.TONGUE);
        x.term();
        return x;
    }

    /** Meaning 7 is said round by 6 twice, that by 5 twice, and so on to meaning 0, by 12 letters. */
    private static Town doubled() {
        Town town = Town.of(8).district(1).word(12, 0, 0, 0).speaker(0, 99, 0, 7);
        for (int meaning = 7; meaning > 0; meaning--) {
            town.round(meaning, meaning - 1, meaning - 1);
        }
        return town;
    }

    // Term III

    @Says("SAID: a MEANING by the least letters of a WORD that SITS and means it;")
    static void termIII_saidByTheLeastLetters(Due due) {
        WordSeats x = Town.of(4).district(1).district(1).district(1)
            .word(9, 0, 0, 0, 1).word(5, 1, 0, 1, 2).word(7, 2, 0, 0, 1).word(1, 2, 0, 0, 1, 2, 3)
            .speaker(0, 1, 0).speaker(1, 1, 1).speaker(2, 1, 0).seated();
        // Word 3 is the shortest and means all, but does not sit.
        due.is("sitting()", 7, x.sitting());
        due.row("said(", Due.ints(7, 5, 5, -1), x::said);
    }

    @Says("ROUND: by a ROUND for it, the letters of both others")
    static void termIII_roundByTheLettersOfBothOthers(Due due) {
        WordSeats x = twoSit();
        due.is("3 by 0 and 1, 4 and 7 letters and one: least(3)", 12, x.least(3));
        WordSeats alike = Town.of(2).district(1).word(5, 0, 0, 0).speaker(0, 1, 0).round(1, 0, 0).seated();
        due.is("1 by 0 and 0: least(1)", 11, alike.least(1));
        WordSeats one = Town.of(3).district(1).word(5, 0, 0, 0).speaker(0, 1, 0).round(1, 0, 2).round(2, 1, 0).seated();
        due.row("one of both is dumb: least(", Due.ints(5, -1, -1), one::least);
    }

    @Says("(SAID or ROUND)")
    static void termIII_roundByOthersThatAreSaidRound(Due due) {
        WordSeats x = doubled().seated();
        int length = 12;
        for (int meaning = 0; meaning < 8; meaning++) {
            due.is("least(" + meaning + ")", length, x.least(meaning));
            length = 2 * length + 1;
        }
        // The shorter of both ways counts inside another one too: 1 is said by 9 letters, round by 3.
        WordSeats mixed = Town.of(3).district(1).district(1).word(1, 0, 0, 0).word(9, 1, 0, 1)
            .speaker(0, 1, 0).speaker(1, 1, 1).round(2, 1, 1).round(1, 0, 0).seated();
        due.row("mixed: said(", Due.ints(1, 9, -1), mixed::said);
        due.row("mixed: least(", Due.ints(1, 3, 7), mixed::least);
    }

    @Says("and one more together;")
    static void termIII_roundTakesOneMore(Due due) {
        WordSeats x = Town.of(3).district(1).district(1).word(4, 0, 0, 0).word(9, 1, 0, 1)
            .speaker(0, 1, 0).speaker(1, 1, 1).round(1, 0, 0).round(2, 0, 1).seated();
        due.is("4, 4 and one: least(1)", 9, x.least(1));
        due.is("4, 9 and one: least(2)", 14, x.least(2));
    }

    @Says("LEAST: the least by any.")
    static void termIII_leastByAny(Due due) {
        WordSeats x = Town.of(3).district(1).district(1).word(12, 0, 0, 0).word(2, 1, 0, 1)
            .speaker(0, 1, 0).speaker(1, 1, 1).round(2, 0, 0).round(2, 1, 0).round(2, 0, 1).round(0, 1, 1).seated();
        due.is("said by 12, round by 5: least(0)", 5, x.least(0));
        due.is("said by 2: least(1)", 2, x.least(1));
        due.is("11, 8 and 8: least(2)", 8, x.least(2));
    }

    @Says("DUMB: it cannot be said so.")
    static void termIII_dumb(Due due) {
        WordSeats ring = Town.of(4).district(1).word(4, 0, 0, 2).speaker(0, 1, 2).round(0, 1, 1).round(1, 0, 2).seated();
        // 0 and 1 need one another, 3 nobody means.
        due.is("ring: dumb()", 11, ring.dumb());
        due.row("ring: least(", Due.ints(-1, -1, 4, -1), ring::least);
    }

    @Says("COST of a SPEAKER: its votes times LEAST of each of its needs,")
    static void termIII_costIsVotesTimesLeast(Due due) {
        WordSeats x = twoSit();
        due.is("9 times 4: cost(0)", 36, x.cost(0));
        due.is("2 times 7 and 12: cost(1)", 38, x.cost(1));
        due.is("1 times 7: cost(3)", 7, x.cost(3));
        WordSeats y = doubled().seated();
        due.is("99 times 12 and 1663: cost(0)", 99 * 1675, y.cost(0));
    }

    @Says("40 for a DUMB one.")
    static void termIII_costOfADumbOneIs40(Due due) {
        WordSeats x = twoSit();
        due.is("3 times 7, 7 and 40: cost(2)", 162, x.cost(2));
        WordSeats nobody = doubled().open();
        due.is("99 times 40 and 40: cost(0)", 7920, nobody.cost(0));
    }

    // promises 29 to 32

    @Says("SAID of a MEANING by who is SITTING.")
    static void promise29_saidByWhoIsSitting(Due due) {
        WordSeats x = twoSit();
        due.row("said(", Due.ints(4, 7, 7), x::said);
        x.need(0, 2);
        due.is("another would sit: elected()", 6, x.elected());
        due.row("as who is sitting: said(", Due.ints(4, 7, 7), x::said);
        x.term();
        due.row("by words 1 and 2: said(", Due.ints(-1, 2, 7), x::said);
    }

    @Says("NONE: it is not;")
    static void promise29_itIsNot(Due due) {
        WordSeats x = twoSit();
        due.is("round alone: said(3)", -1, x.said(3));
        due.is("dumb: said(4)", -1, x.said(4));
        due.row("nobody sits: said(", Due.ints(-1, -1, -1, -1, -1), Due.chamber(Texts.TONGUE)::said);
    }

    @Says("-2: there is none such.")
    static void promise29_noneSuch(Due due) {
        due.all("said(", -2, twoSit()::said, -1, 5, 8, FAR, FAR_BELOW);
        due.all("no chamber: said(", -2, new WordSeats()::said, -1, 0, 7);
        due.row("one meaning: said(", Due.ints(-1, -2), Town.bare()::said);
    }

    @Says("LEAST of it.")
    static void promise30_least(Due due) {
        due.row("least(", Due.ints(4, 7, 7, 12), twoSit()::least);
    }

    @Says("NONE: it is DUMB;")
    static void promise30_itIsDumb(Due due) {
        due.is("least(4)", -1, twoSit().least(4));
        due.row("nobody sits: least(", Due.ints(-1, -1, -1, -1, -1), Due.chamber(Texts.TONGUE)::least);
    }

    @Says("-2 likewise.")
    static void promise30_noneSuch(Due due) {
        due.all("least(", -2, twoSit()::least, -1, 5, 8, FAR, FAR_BELOW);
        due.all("no chamber: least(", -2, new WordSeats()::least, -1, 0, 7);
    }

    @Says("The first ROUND by which it is LEAST.")
    static void promise31_theFirstByWhichItIsLeast(Due due) {
        due.is("rounds 0 and 3 are alike: round(3)", 0, twoSit().round(3));
        // Round 0 is the first for 2, but longer; 2 and 3 are alike.
        WordSeats x = Town.of(3).district(1).word(4, 0, 0, 0).speaker(0, 1, 0)
            .round(2, 1, 0).round(1, 0, 0).round(2, 0, 0).round(2, 0, 0).seated();
        due.is("least(2)", 9, x.least(2));
        due.is("round(2)", 2, x.round(2));
        due.is("round(1)", 1, x.round(1));
        due.row("doubled: round(1 + ", Due.ints(6, 5, 4, 3, 2, 1, 0), i -> doubled().seated().round(1 + i));
    }

    @Says("NONE: it is SAID so,")
    static void promise31_itIsSaidSo(Due due) {
        WordSeats x = twoSit();
        due.row("round(", Due.ints(-1, -1, -1), x::round);
        // By 9 letters, and round by 4, 4 and one: as short.
        WordSeats even = Town.of(2).district(1).district(1).word(4, 0, 0, 0).word(9, 1, 0, 1)
            .speaker(0, 1, 0).speaker(1, 1, 1).round(1, 0, 0).seated();
        due.is("as short: said(1)", 9, even.said(1));
        due.is("as short: least(1)", 9, even.least(1));
        due.is("as short: round(1)", -1, even.round(1));
        WordSeats shorter = Town.of(2).district(1).district(1).word(4, 0, 0, 0).word(10, 1, 0, 1)
            .speaker(0, 1, 0).speaker(1, 1, 1).round(1, 0, 0).seated();
        due.is("one longer: round(1)", 0, shorter.round(1));
    }

    @Says("DUMB;")
    static void promise31_itIsDumb(Due due) {
        due.is("round(4)", -1, twoSit().round(4));
        due.row("nobody sits: round(", Due.ints(-1, -1, -1, -1, -1), Due.chamber(Texts.TONGUE)::round);
    }

    @Says("-2 likewise.")
    static void promise31_noneSuch(Due due) {
        due.all("round(", -2, twoSit()::round, -1, 5, 8, FAR, FAR_BELOW);
        due.all("no chamber: round(", -2, new WordSeats()::round, -1, 0, 7);
    }

    @Says("DUMB MEANINGS, as bits.")
    static void promise32_dumbMeanings(Due due) {
        due.is("nobody sits: dumb()", 31, Due.chamber(Texts.TONGUE).dumb());
        due.is("dumb()", 16, twoSit().dumb());
        due.is("none: dumb()", 0, doubled().seated().dumb());
        due.is("eight: dumb()", 255, doubled().open().dumb());
        due.is("one: dumb()", 1, Town.bare().dumb());
    }

    @Says("-2: there is no CHAMBER.")
    static void promise32_noChamber(Due due) {
        due.is("dumb()", -2, new WordSeats().dumb());
    }

    // promises 33 to 36

    @Says("COST of a SPEAKER.")
    static void promise33_cost(Due due) {
        due.row("cost(", Due.ints(36, 38, 162, 7), twoSit()::cost);
        due.row("nobody sits: cost(", Due.ints(360, 160, 360, 40), Due.chamber(Texts.TONGUE)::cost);
    }

    @Says("-2: there is none such.")
    static void promise33_noneSuch(Due due) {
        due.all("cost(", -2, twoSit()::cost, -1, 4, FAR, FAR_BELOW);
        due.is("no chamber: cost(0)", -2, new WordSeats().cost(0));
        due.is("no speakers: cost(0)", -2, Town.bare().cost(0));
    }

    @Says("Of all.")
    static void promise34_ofAll(Due due) {
        due.is("costs()", 243, twoSit().costs());
        due.is("nobody sits: costs()", 920, Due.chamber(Texts.TONGUE).costs());
        due.is("no speakers: costs()", 0, Town.bare().costs());
    }

    @Says("-2: there is no CHAMBER.")
    static void promise34_noChamber(Due due) {
        due.is("costs()", -2, new WordSeats().costs());
    }

    @Says("COST of all, if a set of WORDS (bits) were SITTING.")
    static void promise35_ifASetWereSitting(Due due) {
        WordSeats x = twoSit();
        int[][] sets = {{0, 920}, {1, 300}, {2, 730}, {3, 216}, {4, 623}, {5, 243}, {6, 598}, {8, 772},
            {9, 234}, {10, 582}, {15, 192}};
        for (int[] set : sets) {
            due.is("by(" + set[0] + ")", set[1], x.by(set[0]));
        }
        due.is("nothing happens: sitting()", 5, x.sitting());
        // Dead WORDS are WORDS too.
        due.is("the dead: by(14)", 6 * 40 + 5 * (6 + 4) + 4 * 4 + 3 * (5 + 4), Texts.buried().by(14));
    }

    @Says("-2: there is no such set,")
    static void promise35_noSuchSet(Due due) {
        WordSeats x = Due.chamber(Texts.TONGUE);
        due.all("by(", -2, x::by, -1, 16, 17, 512, FAR, FAR_BELOW);
        due.row("no words: by(", Due.ints(0, -2), Town.bare()::by);
        Town nine = Town.of(1).district(1).speaker(0, 2, 0);
        for (int i = 0; i < 9; i++) {
            nine.word(9 - i, 0, 0, 0);
        }
        WordSeats y = nine.open();
        due.is("nine: by(511)", 2, y.by(511));
        due.is("nine: by(256)", 2, y.by(256));
        due.is("nine: by(512)", -2, y.by(512));
    }

    @Says("no CHAMBER.")
    static void promise35_noChamber(Due due) {
        due.all("by(", -2, new WordSeats()::by, -1, 0, 1);
    }

    @Says("The DISTRICT's WORD (not dead)")
    static void promise36_theDistrictsWord(Due due) {
        WordSeats x = Due.chamber(Texts.TONGUE);
        due.row("cheapest(", Due.ints(0, 2), x::cheapest);
        WordSeats dead = Texts.buried();
        for (int speaker = 0; speaker < 4; speaker++) {
            dead.need(speaker, 2);
        }
        due.is("word 1 is dead: cheapest(0)", 0, dead.cheapest(0));
    }

    @Says("by which COST of all would be least,")
    static void promise36_byWhichCostIsLeast(Due due) {
        WordSeats x = twoSit();
        due.is("by(9) 234, by(5) 243: cheapest(1)", 3, x.cheapest(1));
        // Of all speakers, those elsewhere too: word 1 is of use in district 1 alone.
        WordSeats elsewhere = Town.of(2).district(1).district(1).word(3, 0, 0, 0).word(3, 0, 0, 1)
            .speaker(0, 4, 0).speaker(1, 5, 1).open();
        due.is("elsewhere: cheapest(0)", 1, elsewhere.cheapest(0));
        // To say 7 by word 0 is dearer than to be dumb.
        WordSeats dear = doubled().word(3, 0, 0, 3).open();
        due.is("by(1) 99 * 1675, by(2) 99 * 103: cheapest(0)", 1, dear.cheapest(0));
    }

    @Says("were it SITTING there in place of who is,")
    static void promise36_inPlaceOfWhoIs(Due due) {
        WordSeats x = twoSit();
        // With word 2 in district 1: by(5) is 243, by(6) 598.
        due.is("cheapest(0)", 0, x.cheapest(0));
        // Word 0 sits and says all; word 1, by fewer letters, says less without it.
        WordSeats y = Town.of(2).district(1).word(5, 0, 0, 0, 1).word(1, 0, 0, 0).speaker(0, 1, 0, 1).seated();
        due.is("10 against 41: cheapest(0)", 0, y.cheapest(0));
        due.is("nothing happens: sitting()", 1, y.sitting());
        // In district 1 somebody means the same, so that district 0 had better say the other.
        WordSeats z = Town.of(2).district(1).district(1).word(5, 0, 0, 0).word(5, 0, 0, 1).word(5, 1, 0, 0)
            .speaker(0, 2, 0).speaker(0, 1, 1).speaker(1, 1, 0).seated();
        due.is("sitting()", 5, z.sitting());
        due.is("as district 1 has it: cheapest(0)", 1, z.cheapest(0));
    }

    @Says("the first of several.")
    static void promise36_theFirstOfSeveral(Due due) {
        WordSeats x = Town.of(1).district(1).word(5, 0, 0, 0).word(2, 0, 0, 0).word(2, 0, 0, 0).speaker(0, 3, 0).open();
        due.is("cheapest(0)", 1, x.cheapest(0));
        WordSeats useless = Town.of(2).district(1).word(5, 0, 0, 0).word(2, 0, 0, 0).speaker(0, 3, 1).open();
        due.is("none is of use: cheapest(0)", 0, useless.cheapest(0));
    }

    @Says("NONE: nobody stands;")
    static void promise36_nobodyStands(Due due) {
        WordSeats x = Town.of(1).dies(1).district(1).district(1).word(5, 1, 0, 0).speaker(0, 3, 0).open();
        due.row("cheapest(", Due.ints(-1, 0), x::cheapest);
        x.term();
        due.is("all are dead: cheapest(1)", -1, x.cheapest(1));
    }

    @Says("-2: there is no such DISTRICT.")
    static void promise36_noSuchDistrict(Due due) {
        due.all("cheapest(", -2, twoSit()::cheapest, -1, 2, FAR, FAR_BELOW);
        due.is("no chamber: cheapest(0)", -2, new WordSeats().cheapest(0));
    }

    // promises 37 to 40

    @Says("COVER: the fewest WORDS")
    static void promise37_theFewest(Due due) {
        WordSeats x = Due.chamber(Texts.TONGUE);
        due.row("cover(", Due.ints(0, 1, 1, 1, 1, 1, 1, 1, 1), x::cover);
        WordSeats spoilt = Due.chamber(Texts.SPOILT);
        due.row("each says one: cover(", Due.ints(0, 1, 1, 2, 1, 2, 2, 3, 1, 2, 2, 3, 2, 3, 3, 4), spoilt::cover);
        WordSeats laws = Due.chamber(Texts.LAWS);
        due.is("laws: cover(63)", 2, laws.cover(63));
    }

    @Says("(not dead)")
    static void promise37_notDead(Due due) {
        WordSeats x = Texts.buried();
        due.row("cover(", Due.ints(0, 1, -1, -1, -1), x::cover);
    }

    @Says("by which all of a set (bits) of MEANINGS can be said")
    static void promise37_allOfASet(Due due) {
        WordSeats x = Town.of(8).district(1).word(1, 0, 0, 0, 1, 2).word(1, 0, 0, 2, 3, 4).word(1, 0, 0, 5, 6, 7)
            .word(1, 0, 0, 0, 7).open();
        int[][] sets = {{7, 1}, {28, 1}, {129, 1}, {15, 2}, {31, 2}, {224, 1}, {225, 2}, {255, 3}};
        for (int[] set : sets) {
            due.is("cover(" + set[0] + ")", set[1], x.cover(set[0]));
        }
    }

    @Says("(SAID or ROUND),")
    static void promise37_saidOrRound(Due due) {
        WordSeats x = doubled().word(1, 0, 0, 7).open();
        due.is("all by word 0: cover(255)", 1, x.cover(255));
        due.is("7 by either: cover(128)", 1, x.cover(128));
        due.is("0 by word 0: cover(1)", 1, x.cover(1));
    }

    @Says("were these SITTING (of a DISTRICT even several).")
    static void promise37_ofADistrictEvenSeveral(Due due) {
        WordSeats x = twoSit();
        due.is("whoever sits: cover(15)", 1, x.cover(15));
        WordSeats spoilt = Due.chamber(Texts.SPOILT);
        due.is("all four of one district: cover(15)", 4, spoilt.cover(15));
        due.is("nothing happens: sitting()", 0, spoilt.sitting());
    }

    @Says("NONE: none do;")
    static void promise37_noneDo(Due due) {
        WordSeats x = Due.chamber(Texts.TONGUE);
        due.all("4 is dumb: cover(", -1, x::cover, 16, 17, 31);
        due.row("no words: cover(", Due.ints(0, -1, -2), Town.bare()::cover);
    }

    @Says("-2: there is no such set,")
    static void promise37_noSuchSet(Due due) {
        due.all("cover(", -2, Due.chamber(Texts.TONGUE)::cover, -1, 32, 33, 256, FAR, FAR_BELOW);
        WordSeats eight = doubled().open();
        due.is("eight: cover(255)", 1, eight.cover(255));
        due.is("eight: cover(256)", -2, eight.cover(256));
    }

    @Says("no CHAMBER.")
    static void promise37_noChamber(Due due) {
        due.all("cover(", -2, new WordSeats()::cover, -1, 0, 1);
    }

    @Says("Which, as bits:")
    static void promise38_which(Due due) {
        WordSeats spoilt = Due.chamber(Texts.SPOILT);
        for (int set = 0; set < 16; set++) {
            due.is("each says one: covers(" + set + ")", set, spoilt.covers(set));
        }
        due.is("laws: covers(32)", 32, Due.chamber(Texts.LAWS).covers(32));
    }

    @Says("the least set of so few.")
    static void promise38_theLeastOfSoFew(Due due) {
        WordSeats laws = Due.chamber(Texts.LAWS);
        due.is("1 is of words 0 and 1: covers(2)", 1, laws.covers(2));
        due.is("2 is of words 1 and 2, and round of 5: covers(4)", 2, laws.covers(4));
        // Words 0 and 1 are the lesser set, word 2 alone is fewer.
        WordSeats few = Town.of(2).district(1).word(1, 0, 0, 0).word(1, 0, 0, 1).word(9, 0, 0, 0, 1).word(9, 0, 0, 0, 1).open();
        due.is("few: covers(3)", 4, few.covers(3));
        due.is("few: covers(2)", 2, few.covers(2));
    }

    @Says("NONE,")
    static void promise38_noneDo(Due due) {
        due.all("4 is dumb: covers(", -1, Due.chamber(Texts.TONGUE)::covers, 16, 17, 31);
        due.row("the dead are none: covers(", Due.ints(0, 1, -1, -1), Texts.buried()::covers);
    }

    @Says("-2 likewise.")
    static void promise38_noSuchSetNoChamber(Due due) {
        due.all("covers(", -2, Due.chamber(Texts.TONGUE)::covers, -1, 32, 33, 256, FAR, FAR_BELOW);
        due.all("no chamber: covers(", -2, new WordSeats()::covers, -1, 0, 1);
    }

    @Says("HOUSE: by one WORD (not dead)")
    static void promise39_byOneWordNotDead(Due due) {
        due.is("house()", 234, Due.chamber(Texts.TONGUE).house());
        due.is("whoever sits: house()", 234, twoSit().house());
        // Word 0 alone is left: 6 times 3, and 40 for each of 5 other needs.
        due.is("the others are dead: house()", 18 + 40 * (5 + 5 + 4 + 3 + 3), Texts.buried().house());
        // Both words of one district would say all.
        WordSeats one = Town.of(2).district(1).word(1, 0, 0, 0).word(1, 0, 0, 1).speaker(0, 1, 0, 1).open();
        due.is("one of a district: house()", 41, one.house());
    }

    @Says("or nobody for each DISTRICT")
    static void promise39_orNobody(Due due) {
        WordSeats x = doubled().open();
        due.is("dearer by word 0 than dumb: by(1)", 99 * 1675, x.by(1));
        due.is("house()", 99 * 80, x.house());
        due.is("no districts: house()", 0, Town.bare().house());
    }

    @Says("the least COST of all that there can be.")
    static void promise39_theLeastCost(Due due) {
        WordSeats x = Town.of(3).district(1).district(1).word(9, 0, 0, 0, 1).word(2, 0, 0, 0).word(2, 1, 0, 1).word(3, 1, 0, 1, 2)
            .speaker(0, 1, 0).speaker(0, 1, 1).speaker(1, 1, 2).open();
        due.is("2, 3 and 3: house()", 8, x.house());
    }

    @Says("-2: there is no CHAMBER.")
    static void promise39_noChamber(Due due) {
        due.is("house()", -2, new WordSeats().house());
    }

    @Says("Who, as bits:")
    static void promise40_who(Due due) {
        due.is("housed()", 9, Due.chamber(Texts.TONGUE).housed());
        due.is("the others are dead: housed()", 1, Texts.buried().housed());
        due.is("nothing happens: sitting()", 0, Due.chamber(Texts.TONGUE).sitting());
    }

    @Says("the least set by which it is.")
    static void promise40_theLeastSet(Due due) {
        WordSeats x = Town.of(1).district(1).district(1).word(5, 0, 0, 0).word(2, 0, 0, 0).word(2, 1, 0, 0).speaker(1, 3, 0).open();
        due.is("words 1, 2 or both: housed()", 2, x.housed());
        due.is("nobody is as cheap: housed()", 0, Town.of(2).district(1).word(5, 0, 0, 0).speaker(0, 3, 1).open().housed());
        due.is("nobody is cheaper: housed()", 0, doubled().open().housed());
        due.is("no districts: housed()", 0, Town.bare().housed());
    }

    @Says("-2 likewise.")
    static void promise40_noChamber(Due due) {
        due.is("housed()", -2, new WordSeats().housed());
    }

    // Term V

    /** Speaker 1 (5 votes) likes words 1 and 2, word 0 sits by 6, word 2 has 4. */
    @Says("A SPEAKER may give its votes (all) to another WORD of its DISTRICT")
    static void termV_allItsVotesToAnotherWord(Due due) {
        WordSeats x = Due.chamber(Texts.SPOILT);
        due.is("5 and 4 against 6: feint(1)", 2, x.feint(1));
        // Word 1 means what speaker 1 needs, but stands elsewhere.
        WordSeats y = Town.of(2).district(1).district(1).word(3, 0, 0, 0).word(3, 1, 0, 1).speaker(0, 2, 0).speaker(0, 3, 1).open();
        due.is("elsewhere: feint(1)", -1, y.feint(1));
        y.stand(1, 0);
        due.is("it sits there: elected()", 2, y.elected());
    }

    @Says("(that is not dead),")
    static void termV_notToTheDead(Due due) {
        WordSeats x = Texts.buried();
        due.row("feint(", Due.ints(-1, -1, -1, -1), x::feint);
        due.is("restless()", 0, x.restless());
    }

    /** By runoff speaker 1 brings word 2 to the second vote; by strike word 2 sits without. */
    @Says("put ahead of all in its ORDER")
    static void termV_putAheadOfAll(Due due) {
        WordSeats x = Due.chamber(Texts.SPOILT);
        x.bill(0, 1);
        due.is("runoff: feint(1)", 2, x.feint(1));
        due.is("runoff: gains(1)", 1, x.gains(1));
        x.bill(0, 2);
        due.is("strike: restless()", 0, x.restless());
        // Speaker 1 likes word 1 twice, word 2 once: with that ahead, 5 and 4 are more than half.
        WordSeats y = Town.of(4).law("strike").district(1).word(5, 0, 0, 0).word(4, 0, 0, 1, 3).word(3, 0, 0, 2)
            .speaker(0, 6, 0).speaker(0, 5, 1, 2, 3).speaker(0, 4, 2).open();
        due.is("6 of 11, word 2 struck: sits(0, 2)", 0, y.sits(0, 2));
        due.is("9 of 15: feint(1)", 2, y.feint(1));
        due.is("9 of 15: gains(1)", 1, y.gains(1));
    }

    /**
     * By strike word 2 is struck, and word 1 has 9 of 17. If speaker 0 puts word 2, which it does not like at all, ahead,
     * word 1 is struck, whose 5 votes go to word 0.
     */
    @Says("(LIKED by it for all laws),")
    static void termV_likedForAllLaws(Due due) {
        WordSeats x = Town.of(5).law("strike").district(1).word(5, 0, 0, 0).word(3, 0, 0, 1, 3).word(4, 0, 0, 2, 4)
            .speaker(0, 3, 0).speaker(0, 5, 0).speaker(0, 5, 0, 1, 3).speaker(0, 4, 1, 2, 4).open();
        due.is("likes(0, 2)", 0, x.likes(0, 2));
        due.is("sits(0, 2)", 1, x.sits(0, 2));
        due.row("feint(", Due.ints(2, -1, -1, -1), x::feint);
        due.row("gains(", Due.ints(1, 0, 0, 0), x::gains);
        // By approve a feint gives one word more its votes and takes them from none, so that nobody gains.
        WordSeats y = Due.chamber(Texts.SPOILT);
        y.bill(0, 3);
        due.is("approve: restless()", 0, y.restless());
        y.bill(1, 70);
        due.is("approve, bar 70: sits(0, 3)", -1, y.sits(0, 3));
        due.is("approve, bar 70: restless()", 0, y.restless());
        // Speaker 0 likes word 0 more; word 1, the longer one, has its votes all the same.
        WordSeats z = Town.of(2).law("approve").district(1).word(3, 0, 0, 0, 1).word(5, 0, 0, 0).speaker(0, 5, 0, 1).open();
        due.is("approve: sits(0, 3)", 1, z.sits(0, 3));
        due.is("approve, the other as ever: feint(0)", -1, z.feint(0));
    }

    @Says("all others as ever.")
    static void termV_allOthersAsEver(Due due) {
        WordSeats x = Due.chamber(Texts.SPOILT);
        x.feint(1);
        x.gains(3);
        x.restless();
        due.row("votes(", Due.ints(6, 5, 4, 3), x::votes);
        due.row("order(1, ", Due.ints(1, 2, -1), i -> x.order(1, i));
        due.is("speaker(1, 3)", 6, x.speaker(1, 3));
        due.is("elected()", 1, x.elected());
        // Speakers 1 and 3 gain each alone, by what the other does now.
        due.row("gains(", Due.ints(0, 1, 0, 1), x::gains);
    }

    @Says("It GAINS, if it LIKES the one that SITS then more than the one that SITS as all is")
    static void termV_gainsIfItLikesWhoSitsMore(Due due) {
        // Speaker 2 likes words 0 and 1 alike: that word 1 would sit by its votes is no gain.
        WordSeats x = Town.of(3).district(1).word(5, 0, 0, 0).word(5, 0, 0, 0, 1)
            .speaker(0, 4, 0).speaker(0, 3, 1).speaker(0, 2, 0).open();
        due.is("as all is: sits(0, 0)", 0, x.sits(0, 0));
        due.is("by speaker 2 word 1 would: gains(2)", 0, x.gains(2));
        due.is("feint(2)", -1, x.feint(2));
        due.is("speaker 0: gains(0)", 0, x.gains(0));
    }

    /** Word 0 has 6 of 18, so that nobody sits by bar 50; with 5 and 4 word 2 does. */
    @Says("(nobody: 0).")
    static void termV_nobodyIsLiked0(Due due) {
        WordSeats x = Due.chamber(Texts.SPOILT);
        x.bill(1, 50);
        due.is("sits(0, 0)", -1, x.sits(0, 0));
        due.row("feint(", Due.ints(-1, 2, -1, -1), x::feint);
        due.row("gains(", Due.ints(0, 1, 0, 0), x::gains);
        // Speaker 1 would have nobody sit in place of word 0; it likes neither.
        WordSeats y = Town.of(2).bar(60).district(1).word(5, 0, 0, 0).word(4, 0, 0, 1).speaker(0, 6, 0).speaker(0, 4, 1).open();
        due.is("restless()", 0, y.restless());
    }

    // promises 41 to 43

    @Says("V: the WORD by which a SPEAKER GAINS most by the law,")
    static void promise41_theWordByWhichItGainsMost(Due due) {
        WordSeats x = Due.chamber(Texts.SPOILT);
        due.row("feint(", Due.ints(-1, 2, -1, 2), x::feint);
        // Speaker 1 votes for word 3, which it likes thrice; word 1 would sit by it too, word 2 is liked more.
        WordSeats y = Town.of(4).district(1).word(3, 0, 0, 0).word(9, 0, 0, 1).word(5, 0, 0, 1, 2).word(4, 0, 0, 1, 2, 3)
            .speaker(0, 5, 0).speaker(0, 3, 1, 2, 3).speaker(0, 3, 1).speaker(0, 3, 2).open();
        due.is("as all is: sits(0, 0)", 0, y.sits(0, 0));
        due.is("gains most by 2: feint(1)", 2, y.feint(1));
    }

    @Says("the first of several.")
    static void promise41_theFirstOfSeveral(Due due) {
        // Speaker 0 votes for word 3; by words 0 and 1 alike it has one sit that it likes as much.
        WordSeats x = Town.of(4).district(1).word(2, 0, 0, 0, 2).word(2, 0, 0, 0, 3).word(3, 0, 0, 1).word(9, 0, 0, 0)
            .speaker(0, 3, 0).speaker(0, 4, 1).speaker(0, 2, 2).speaker(0, 2, 3).open();
        due.is("as all is: sits(0, 0)", 2, x.sits(0, 0));
        due.is("feint(0)", 0, x.feint(0));
        due.is("gains(0)", 1, x.gains(0));
    }

    @Says("NONE: by none;")
    static void promise41_byNone(Due due) {
        WordSeats x = Due.chamber(Texts.SPOILT);
        due.all("feint(", -1, x::feint, 0, 2);
        WordSeats empty = Town.of(1).district(1).speaker(0, 1, 0).open();
        due.is("nobody stands: feint(0)", -1, empty.feint(0));
    }

    @Says("-2: there is none such.")
    static void promise41_noneSuch(Due due) {
        due.all("feint(", -2, Due.chamber(Texts.SPOILT)::feint, -1, 4, FAR, FAR_BELOW);
        due.is("no chamber: feint(0)", -2, new WordSeats().feint(0));
        due.is("no speakers: feint(0)", -2, Town.bare().feint(0));
    }

    @Says("By how much.")
    static void promise42_byHowMuch(Due due) {
        due.row("gains(", Due.ints(0, 1, 0, 1), Due.chamber(Texts.SPOILT)::gains);
        WordSeats y = Town.of(4).district(1).word(3, 0, 0, 0).word(9, 0, 0, 1).word(5, 0, 0, 1, 2).word(4, 0, 0, 1, 2, 3)
            .speaker(0, 5, 0).speaker(0, 3, 1, 2, 3).speaker(0, 3, 1).speaker(0, 3, 2).open();
        due.row("gains(", Due.ints(0, 2, 1, 1), y::gains);
        // Word 0 sits, which speaker 1 likes once; by its votes word 1 would, which it likes thrice.
        WordSeats more = Town.of(4).district(1).word(9, 0, 0, 0).word(8, 0, 0, 1, 2, 3).word(4, 0, 0, 0, 1, 2, 3)
            .speaker(0, 5, 0).speaker(0, 3, 0, 1, 2, 3).speaker(0, 3, 1).open();
        due.is("as all is: sits(0, 0)", 0, more.sits(0, 0));
        due.row("feint(", Due.ints(-1, 1, 2), more::feint);
        due.row("gains(", Due.ints(0, 2, 1), more::gains);
    }

    @Says("-2 likewise.")
    static void promise42_noneSuch(Due due) {
        due.all("gains(", -2, Due.chamber(Texts.SPOILT)::gains, -1, 4, FAR, FAR_BELOW);
        due.is("no chamber: gains(0)", -2, new WordSeats().gains(0));
    }

    @Says("REST: SPEAKERS that would GAIN so, as bits")
    static void promise43_whoWouldGain(Due due) {
        WordSeats x = Due.chamber(Texts.SPOILT);
        due.is("restless()", 10, x.restless());
        x.bill(0, 1);
        due.is("runoff: restless()", 10, x.restless());
        // The first and the last of nine each make 8 votes for word 2, against 6 for word 0.
        Town town = Town.of(5).district(1).word(2, 0, 0, 0).word(9, 0, 0, 3).word(5, 0, 0, 1, 2).word(9, 0, 0, 4).speaker(0, 4, 1, 3);
        for (int i = 0; i < 6; i++) {
            town.speaker(0, 1, 0);
        }
        due.is("nine: restless()", 257, town.speaker(0, 4, 1, 2).speaker(0, 4, 2, 4).open().restless());
    }

    @Says("(0: it rests).")
    static void promise43_itRests(Due due) {
        WordSeats x = Due.chamber(Texts.SPOILT);
        x.bill(0, 2);
        due.is("strike: restless()", 0, x.restless());
        due.is("no speakers: restless()", 0, Town.bare().restless());
    }

    @Says("-2: there is no CHAMBER.")
    static void promise43_noChamber(Due due) {
        due.is("restless()", -2, new WordSeats().restless());
    }
}
