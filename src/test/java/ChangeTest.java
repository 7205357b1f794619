import java.math.BigInteger;

/** Term VII and promises 55 to 59: what is changed, and elections drawn. */
final class ChangeTest {
    private static final int FAR = Integer.MAX_VALUE;
    private static final int FAR_BELOW = Integer.MIN_VALUE;

    /** From seed 1 x / 65536 is 16838, 5758, 10113, 17515, 31051, 5627, 23010, 7419, 16212, as often told of this generator. */
    private static final int[] DRAWS_OF_1 = {38, 58, 13, 15, 51, 27, 10, 19, 12};

    public static void main(String[] args) {
        Suite.run(ChangeTest.class);
    }

    /** Nine speakers who like the one word; all but one never come. */
    private static WordSeats oneComes(int speaker, int comes) {
        Town town = Town.of(1).district(1).word(1, 0, 0, 0);
        for (int s = 0; s < 9; s++) {
            town.comer(0, 1, s == speaker ? comes : 0, 0);
        }
        return town.open();
    }

    // promises 55 to 57

    @Says("A WORD stands in a DISTRICT from now on:")
    static void promise55_standsFromNowOn(Due due) {
        WordSeats x = Due.chamber(Texts.LAWS);
        x.stand(2, 1);
        due.is("word(2, 1)", 1, x.word(2, 1));
        due.is("district(0, 1)", 3, x.district(0, 1));
        due.is("district(1, 1)", 252, x.district(1, 1));
        due.is("order(6, 0)", 2, x.order(6, 0));
        due.is("abstains(1)", 0, x.abstains(1));
        due.row("order(2, ", Due.ints(1, 0, -1), i -> x.order(2, i));
        due.is("lines as ever: count(9)", 20, x.count(9));
        x.stand(2, 0);
        due.is("back again: district(0, 1)", 7, x.district(0, 1));
    }

    @Says("where it stood.")
    static void promise55_whereItStood(Due due) {
        WordSeats x = Due.chamber(Texts.LAWS);
        due.is("stand(2, 1)", 0, x.stand(2, 1));
        due.is("stand(2, 1)", 1, x.stand(2, 1));
        due.is("stand(2, 0)", 1, x.stand(2, 0));
        due.is("stand(7, 0)", 1, x.stand(7, 0));
        due.is("stand(7, 0)", 0, x.stand(7, 0));
    }

    @Says("-5: there were TERMS that are not taken back;")
    static void promise55_termsNotTakenBack(Due due) {
        WordSeats x = Due.chamber(Texts.LAWS);
        x.term();
        x.term();
        due.is("stand(2, 1)", -5, x.stand(2, 1));
        due.is("nothing happens: word(2, 1)", 0, x.word(2, 1));
        x.undo();
        due.is("one is left: stand(2, 1)", -5, x.stand(2, 1));
        due.is("where it stands: stand(2, 0)", -5, x.stand(2, 0));
        x.undo();
        due.is("all taken back: stand(2, 1)", 0, x.stand(2, 1));
        x.bill(1, 100);
        x.term();
        due.is("nobody sits by it: stand(2, 0)", -5, x.stand(2, 0));
    }

    @Says("-2: there are none such.")
    static void promise55_noneSuch(Due due) {
        WordSeats x = Due.chamber(Texts.LAWS);
        due.all("stand(2, ", -2, d -> x.stand(2, d), -1, 2, FAR, FAR_BELOW);
        due.all("stand(w, 0), w ", -2, w -> x.stand(w, 0), -1, 8, FAR, FAR_BELOW);
        due.is("nothing happens: word(2, 1)", 0, x.word(2, 1));
        x.term();
        due.is("behind a term: stand(8, 0)", -2, x.stand(8, 0));
        due.is("no chamber: stand(0, 0)", -2, new WordSeats().stand(0, 0));
    }

    @Says("Needs of a SPEAKER are a set (1 and above) from now on:")
    static void promise56_needsFromNowOn(Due due) {
        WordSeats x = Due.chamber(Texts.LAWS);
        x.need(6, 8);
        due.is("speaker(6, 3)", 8, x.speaker(6, 3));
        due.is("votes(3)", 9, x.votes(3));
        due.is("cost(6)", 120, x.cost(6));
        x.need(6, 63);
        due.is("all: speaker(6, 3)", 63, x.speaker(6, 3));
        due.is("all: cost(6)", 720, x.cost(6));
        x.term();
        x.need(6, 1);
        due.is("behind a term: speaker(6, 3)", 1, x.speaker(6, 3));
    }

    @Says("what they were.")
    static void promise56_whatTheyWere(Due due) {
        WordSeats x = Due.chamber(Texts.LAWS);
        due.is("need(6, 8)", 1, x.need(6, 8));
        due.is("need(6, 63)", 8, x.need(6, 63));
        due.is("need(6, 63)", 63, x.need(6, 63));
        due.is("need(0, 1)", 3, x.need(0, 1));
    }

    @Says("-2: there are none such.")
    static void promise56_noneSuch(Due due) {
        WordSeats x = Due.chamber(Texts.LAWS);
        due.all("need(6, ", -2, set -> x.need(6, set), -1, 0, 64, 65, 256, FAR, FAR_BELOW);
        due.all("need(s, 1), s ", -2, s -> x.need(s, 1), -1, 7, FAR, FAR_BELOW);
        due.is("nothing happens: speaker(6, 3)", 1, x.speaker(6, 3));
        due.is("no chamber: need(0, 1)", -2, new WordSeats().need(0, 1));
    }

    @Says("What 0: the law is n (0 .. 3),")
    static void promise57_theLaw(Due due) {
        WordSeats x = Due.chamber(Texts.LAWS);
        int[] elected = {9, 10, 10, 36};
        for (int law = 0; law < 4; law++) {
            x.bill(0, law);
            due.is("count(1)", law, x.count(1));
            due.is("law " + law + ": elected()", elected[law], x.elected());
        }
        due.all("bill(0, ", -2, n -> x.bill(0, n), -1, 4, FAR, FAR_BELOW);
        due.is("nothing happens: count(1)", 3, x.count(1));
    }

    @Says("1: bar (0 .. 100),")
    static void promise57_bar(Due due) {
        WordSeats x = Due.chamber(Texts.LAWS);
        x.bill(1, 40);
        due.is("bar 40: elected()", 1, x.elected());
        due.all("bill(1, ", -2, n -> x.bill(1, n), -1, 101, FAR, FAR_BELOW);
        due.is("nothing happens: count(2)", 40, x.count(2));
        due.is("bill(1, 100)", 40, x.bill(1, 100));
        due.is("bar 100: elected()", 0, x.elected());
        due.is("bill(1, 0)", 100, x.bill(1, 0));
        due.is("bar 0: elected()", 9, x.elected());
    }

    @Says("2: dies (1 .. 9) from now on:")
    static void promise57_dies(Due due) {
        WordSeats x = Due.chamber(Texts.LAWS);
        due.is("bill(2, 1)", 2, x.bill(2, 1));
        due.is("dies()", 1, x.dies());
        due.all("bill(2, ", -2, n -> x.bill(2, n), -1, 0, 10, FAR, FAR_BELOW);
        due.is("nothing happens: count(3)", 1, x.count(3));
        due.is("bill(2, 9)", 1, x.bill(2, 9));
        due.is("dies()", 9, x.dies());
    }

    @Says("what it was.")
    static void promise57_whatItWas(Due due) {
        WordSeats x = Town.of(1).law("strike").bar(33).dies(4).open();
        due.is("bill(0, 0)", 2, x.bill(0, 0));
        due.is("bill(0, 1)", 0, x.bill(0, 1));
        due.is("bill(1, 7)", 33, x.bill(1, 7));
        due.is("bill(1, 7)", 7, x.bill(1, 7));
        due.is("bill(2, 5)", 4, x.bill(2, 5));
        due.row("count(1 + ", Due.ints(1, 7, 5), i -> x.count(1 + i));
        x.term();
        due.is("behind a term: bill(0, 3)", 1, x.bill(0, 3));
    }

    @Says("-2: there are none such,")
    static void promise57_noneSuch(Due due) {
        WordSeats x = Due.chamber(Texts.LAWS);
        due.all("bill(what, 1), what ", -2, what -> x.bill(what, 1), -1, 3, FAR, FAR_BELOW);
        due.row("nothing happens: count(1 + ", Due.ints(0, 0, 2), i -> x.count(1 + i));
    }

    @Says("no CHAMBER.")
    static void promise57_noChamber(Due due) {
        WordSeats x = new WordSeats();
        due.row("bill(what, 1), what ", Due.ints(-2, -2, -2), what -> x.bill(what, 1));
        due.row("count(1 + ", Due.ints(0, 0, 0), i -> x.count(1 + i));
    }

    // Term VII

    @Says({"DRAWS: x becomes (1103515245 x + 12345)", "a draw: x / 65536, cut, modulo 100."})
    static void termVII_drawsOfSeed1(Due due) {
        for (int speaker = 0; speaker < 9; speaker++) {
            int draw = DRAWS_OF_1[speaker];
            due.is("speaker " + speaker + " comes " + draw + ": drawn(1, 0)", -1, oneComes(speaker, draw).drawn(1, 0));
            due.is("speaker " + speaker + " comes " + (draw + 1) + ": drawn(1, 0)", 0, oneComes(speaker, draw + 1).drawn(1, 0));
        }
    }

    /** From seed 2,000,000,000 the numbers are far above 2,147,483,648 before they are taken modulo it. */
    @Says("modulo 2,147,483,648")
    static void termVII_modulo(Due due) {
        for (int seed : new int[] {7, 123456789, 1073741824, 1999999999, 2000000000}) {
            BigInteger x = BigInteger.valueOf(seed);
            for (int speaker = 0; speaker < 9; speaker++) {
                x = x.multiply(BigInteger.valueOf(1103515245)).add(BigInteger.valueOf(12345))
                    .mod(BigInteger.valueOf(2147483648L));
                int draw = x.intValueExact() / 65536 % 100;
                due.is("seed " + seed + ", speaker " + speaker + ": drawn", -1, oneComes(speaker, draw).drawn(seed, 0));
                due.is("seed " + seed + ", speaker " + speaker + ": drawn", 0, oneComes(speaker, draw + 1).drawn(seed, 0));
            }
        }
    }

    /** From seed 0 x is 12345 first, and the draw 0. */
    @Says("(at first it is the seed);")
    static void termVII_atFirstTheSeed(Due due) {
        due.is("comes 0: drawn(0, 0)", -1, oneComes(0, 0).drawn(0, 0));
        due.is("comes 1: drawn(0, 0)", 0, oneComes(0, 1).drawn(0, 0));
        WordSeats x = oneComes(0, 38);
        due.is("seed 1 draws 38: drawn(1, 0)", -1, x.drawn(1, 0));
        due.is("every election begins by its seed: drawn(1, 0)", -1, x.drawn(1, 0));
        due.is("seed 0 draws 0: drawn(0, 0)", 0, x.drawn(0, 0));
        due.is("again: drawn(1, 0)", -1, x.drawn(1, 0));
    }

    /** Speakers of other districts draw too: from seed 1 38, 58, 13. */
    @Says("An election drawn: for each SPEAKER (by numbers) a draw:")
    static void termVII_forEachSpeakerADraw(Due due) {
        WordSeats x = Town.of(1).district(1).district(1).word(1, 0, 0, 0).word(1, 1, 0, 0)
            .comer(1, 1, 39, 0).comer(0, 1, 58, 0).comer(1, 1, 13, 0).open();
        due.is("58 of 58: drawn(1, 0)", -1, x.drawn(1, 0));
        due.is("38 of 39: drawn(1, 1)", 1, x.drawn(1, 1));
        WordSeats y = Town.of(1).district(1).district(1).word(1, 0, 0, 0).word(1, 1, 0, 0)
            .comer(1, 1, 38, 0).comer(0, 1, 59, 0).comer(1, 1, 13, 0).open();
        due.is("58 of 59: drawn(1, 0)", 0, y.drawn(1, 0));
        due.is("38 of 38, 13 of 13: drawn(1, 1)", -1, y.drawn(1, 1));
    }

    @Says("it votes, if it is below comes.")
    static void termVII_itVotesBelowComes(Due due) {
        for (int comes = 37; comes <= 39; comes++) {
            due.is("38 of " + comes + ": drawn(1, 0)", comes > 38 ? 0 : -1, oneComes(0, comes).drawn(1, 0));
        }
        for (int seed = 0; seed < 40; seed++) {
            due.is("comes 100: drawn(" + seed + ", 0)", 0, oneComes(3, 100).drawn(seed, 0));
            due.is("comes 0: drawn(" + seed + ", 0)", -1, oneComes(3, 0).drawn(seed, 0));
        }
    }

    // promises 58 and 59

    @Says("An election drawn (VII) from a seed (0 .. 2,000,000,000):")
    static void promise58_fromASeed(Due due) {
        WordSeats x = Due.chamber(Texts.LAWS);
        x.bill(0, 3);
        // By approve word 5 sits if speaker 4 or 5 comes; else 6 votes are alike, and word 3, the longer one, does.
        due.row("drawn(seed, 1), seed ", Due.ints(5, 5, 5, 5, 5, 3, 3, 5, 5, 5, 5, 5), seed -> x.drawn(seed, 1));
        due.is("drawn(2000000000, 1)", 5, x.drawn(2000000000, 1));
        due.all("drawn(seed, 1), seed ", -2, seed -> x.drawn(seed, 1), -1, 2000000001, FAR, FAR_BELOW);
    }

    @Says("who SITS in a DISTRICT by the law.")
    static void promise58_whoSitsByTheLaw(Due due) {
        WordSeats x = Due.chamber(Texts.LAWS);
        x.bill(0, 3);
        // Speaker 1 comes below 60: its draw is 68 from seed 0, 58 from seed 1; speaker 2 never comes.
        due.is("approve: drawn(0, 0)", 2, x.drawn(0, 0));
        x.bill(0, 1);
        due.is("runoff: drawn(0, 0)", 0, x.drawn(0, 0));
        // 8 of 20 votes come.
        x.bill(0, 0);
        x.bill(1, 40);
        due.is("bar 40: drawn(0, 0)", 0, x.drawn(0, 0));
        due.is("nothing happens: sitting()", 0, x.sitting());
        due.is("nothing happens: count(8)", 0, x.count(8));
    }

    @Says("NONE: nobody;")
    static void promise58_nobody(Due due) {
        WordSeats x = Due.chamber(Texts.LAWS);
        x.bill(1, 41);
        due.is("bar 41: drawn(0, 0)", -1, x.drawn(0, 0));
        x.bill(1, 0);
        x.need(0, 8);
        due.is("speaker 0 likes nobody, 1 stays away: drawn(0, 0)", -1, x.drawn(0, 0));
        due.is("1 comes: drawn(1, 0)", 1, x.drawn(1, 0));
        due.is("nobody comes: drawn(3, 0)", -1, oneComes(0, 0).drawn(3, 0));
    }

    @Says("-2: there are none such.")
    static void promise58_noneSuch(Due due) {
        WordSeats x = Due.chamber(Texts.LAWS);
        due.all("drawn(0, ", -2, d -> x.drawn(0, d), -1, 2, FAR, FAR_BELOW);
        due.is("no chamber: drawn(0, 0)", -2, new WordSeats().drawn(0, 0));
        due.is("no districts: drawn(0, 0)", -2, Town.bare().drawn(0, 0));
    }

    @Says("Of n (1 .. 20) such from seeds, the seed and 1, ..,")
    static void promise59_seedsOneByOne(Due due) {
        WordSeats x = Due.chamber(Texts.LAWS);
        x.bill(0, 3);
        due.is("years(0, 1, 5)", 1, x.years(0, 1, 5));
        due.is("years(0, 7, 5)", 5, x.years(0, 7, 5));
        due.is("years(5, 1, 3)", 1, x.years(5, 1, 3));
        due.is("years(5, 2, 3)", 2, x.years(5, 2, 3));
        due.is("years(6, 2, 3)", 1, x.years(6, 2, 3));
        due.is("years(0, 12, 3)", 2, x.years(0, 12, 3));
        due.all("years(0, n, 5), n ", -2, n -> x.years(0, n, 5), -1, 0, 21, FAR, FAR_BELOW);
        x.bill(0, 0);
        due.is("first: years(0, 20, 0)", 20, x.years(0, 20, 0));
    }

    /** Seeds behind the greatest are gone on to, from it. */
    @Says("the seed and 1, ..,")
    static void promise59_seedsBehindTheGreatest(Due due) {
        WordSeats x = oneComes(0, 50);
        int sits = 0;
        for (long seed = 2000000000L; seed < 2000000020L; seed++) {
            if ((1103515245L * seed + 12345) % 2147483648L / 65536 % 100 < 50) sits++;
        }
        due.is("years(2000000000, 20, 0)", sits, x.years(2000000000, 20, 0));
        due.is("years(2000000001, 1, 0)", -2, x.years(2000000001, 1, 0));
    }

    @Says("in how many a WORD SITS.")
    static void promise59_inHowManyAWordSits(Due due) {
        WordSeats x = Due.chamber(Texts.LAWS);
        x.bill(0, 3);
        for (int word = 0; word < 8; word++) {
            int sits = 0;
            for (int seed = 3; seed < 23; seed++) {
                if (x.drawn(seed, word < 3 ? 0 : 1) == word) sits++;
            }
            due.is("years(3, 20, " + word + ")", sits, x.years(3, 20, word));
        }
        due.is("years(0, 12, 4)", 0, x.years(0, 12, 4));
        due.is("nothing happens: count(8)", 0, x.count(8));
    }

    @Says("-2: there are none such.")
    static void promise59_noneSuch(Due due) {
        WordSeats x = Due.chamber(Texts.LAWS);
        due.all("years(0, 2, ", -2, w -> x.years(0, 2, w), -1, 8, FAR, FAR_BELOW);
        due.all("years(seed, 2, 5), seed ", -2, seed -> x.years(seed, 2, 5), -1, 2000000001, FAR, FAR_BELOW);
        due.is("no chamber: years(0, 1, 0)", -2, new WordSeats().years(0, 1, 0));
    }
}
