/** Promises 29 to 43: what can be said and how dear, fewest words, cheapest houses, feints. */
final class TongueTest {
    private static final Due DUE = new Due();

    public static void main(String[] args) {
        nobodySits();
        twoSit();
        roundAbout();
        sets();
        covers();
        houses();
        feints();
        feintsByLaw();
        greatestGain();
        withoutChamber();
        DUE.close();
    }

    private static void nobodySits() {
        WordSeats x = Due.chamber(Texts.TONGUE);
        for (int meaning = 0; meaning < 5; meaning++) {
            DUE.is("nobody: said(" + meaning + ")", -1, x.said(meaning));
            DUE.is("nobody: least(" + meaning + ")", -1, x.least(meaning));
            DUE.is("nobody: round(" + meaning + ")", -1, x.round(meaning));
        }
        DUE.is("nobody: dumb()", 31, x.dumb());
        DUE.is("nobody: cost(0)", 360, x.cost(0));
        DUE.is("nobody: costs()", 920, x.costs());
        DUE.is("nobody: cheapest(0)", 0, x.cheapest(0));
        DUE.is("nobody: cheapest(1)", 2, x.cheapest(1));
    }

    private static void twoSit() {
        WordSeats x = Due.chamber(Texts.TONGUE);
        x.term();
        DUE.is("sitting()", 5, x.sitting());
        int[] said = {4, 7, 7, -1, -1, -2};
        int[] least = {4, 7, 7, 12, -1, -2};
        int[] round = {-1, -1, -1, 0, -1, -2};
        for (int meaning = 0; meaning < 6; meaning++) {
            DUE.is("said(" + meaning + ")", said[meaning], x.said(meaning));
            DUE.is("least(" + meaning + ")", least[meaning], x.least(meaning));
            DUE.is("round(" + meaning + ")", round[meaning], x.round(meaning));
        }
        DUE.is("said(-1)", -2, x.said(-1));
        DUE.is("least(-1)", -2, x.least(-1));
        DUE.is("round(-1)", -2, x.round(-1));
        DUE.is("dumb()", 16, x.dumb());
        int[] cost = {36, 38, 162, 7, -2};
        for (int speaker = 0; speaker < 5; speaker++) {
            DUE.is("cost(" + speaker + ")", cost[speaker], x.cost(speaker));
        }
        DUE.is("cost(-1)", -2, x.cost(-1));
        DUE.is("costs()", 243, x.costs());
        DUE.is("cheapest(0)", 0, x.cheapest(0));
        DUE.is("cheapest(1)", 3, x.cheapest(1));
        DUE.is("cheapest(2)", -2, x.cheapest(2));
        DUE.is("cheapest(-1)", -2, x.cheapest(-1));
    }

    /** Ways round that need one another, ways of like length, and ways longer than 40. */
    private static void roundAbout() {
        WordSeats ring = Due.chamber("chamber meanings 3 law first bar 0 dies 9;district seats 1;"
            + "word letters 4 in 0 party 0 means 2;speaker in 0 votes 1 comes 0 needs 2;"
            + "round 0 by 1 and 1;round 1 by 0 and 2;");
        ring.term();
        DUE.is("ring: dumb()", 3, ring.dumb());
        DUE.is("ring: least(2)", 4, ring.least(2));
        WordSeats like = Due.chamber("chamber meanings 3 law approve bar 0 dies 9;district seats 1;district seats 1;"
            + "word letters 4 in 0 party 0 means 0;word letters 9 in 1 party 0 means 1;"
            + "speaker in 0 votes 1 comes 0 needs 0 2;speaker in 1 votes 1 comes 0 needs 1;"
            + "round 1 by 0 and 0;round 2 by 1 and 0;round 2 by 0 and 1;");
        like.term();
        DUE.is("like: said(1)", 9, like.said(1));
        DUE.is("like: least(1)", 9, like.least(1));
        DUE.is("like, said so: round(1)", -1, like.round(1));
        DUE.is("like: least(2)", 14, like.least(2));
        DUE.is("like, the first: round(2)", 1, like.round(2));
        WordSeats longer = Due.chamber("chamber meanings 3 law approve bar 0 dies 9;district seats 1;"
            + "word letters 4 in 0 party 0 means 0;speaker in 0 votes 1 comes 0 needs 0;"
            + "round 2 by 1 and 0;round 1 by 0 and 0;round 2 by 0 and 0;");
        longer.term();
        DUE.is("longer: least(1)", 9, longer.least(1));
        DUE.is("longer: least(2)", 9, longer.least(2));
        DUE.is("longer, not the first for it: round(2)", 2, longer.round(2));
        StringBuilder doubled = new StringBuilder("chamber meanings 8 law first bar 0 dies 9;district seats 1;"
            + "word letters 12 in 0 party 0 means 0;speaker in 0 votes 99 comes 0 needs 0 7;");
        for (int meaning = 7; meaning > 0; meaning--) {
            doubled.append("round " + meaning + " by " + (meaning - 1) + " and " + (meaning - 1) + ";");
        }
        WordSeats x = Due.chamber(doubled.toString());
        x.term();
        DUE.is("doubled: least(3)", 103, x.least(3));
        DUE.is("doubled: least(7)", 13 * 128 - 1, x.least(7));
        DUE.is("doubled: round(7)", 0, x.round(7));
        DUE.is("doubled: cost(0)", 99 * (12 + 1663), x.cost(0));
        DUE.is("doubled: by(0)", 99 * 80, x.by(0));
        DUE.is("doubled, nobody is cheaper: housed()", 0, x.housed());
        DUE.is("doubled: house()", 99 * 80, x.house());
        DUE.is("doubled: cheapest(0)", 0, x.cheapest(0));
    }

    private static void sets() {
        WordSeats x = Due.chamber(Texts.TONGUE);
        int[][] due = {{0, 920}, {1, 300}, {2, 730}, {3, 216}, {4, 623}, {5, 243}, {6, 598}, {8, 772}, {9, 234}, {10, 582},
            {15, 192}, {16, -2}, {-1, -2}, {Integer.MIN_VALUE, -2}, {Integer.MAX_VALUE, -2}};
        for (int[] set : due) {
            DUE.is("by(" + set[0] + ")", set[1], x.by(set[0]));
        }
        x.term();
        DUE.is("whoever sits: by(9)", 234, x.by(9));
    }

    private static void covers() {
        WordSeats x = Due.chamber(Texts.TONGUE);
        int[][] due = {{0, 0, 0}, {1, 1, 1}, {2, 1, 1}, {15, 1, 1}, {16, -1, -1}, {31, -1, -1}, {32, -2, -2}, {-1, -2, -2}};
        for (int[] row : due) {
            DUE.is("cover(" + row[0] + ")", row[1], x.cover(row[0]));
            DUE.is("covers(" + row[0] + ")", row[2], x.covers(row[0]));
        }
        WordSeats spoilt = Due.chamber(Texts.SPOILT);
        DUE.is("spoilt: cover(15)", 4, spoilt.cover(15));
        DUE.is("spoilt: covers(15)", 15, spoilt.covers(15));
        DUE.is("spoilt: cover(10)", 2, spoilt.cover(10));
        DUE.is("spoilt: covers(10)", 10, spoilt.covers(10));
        WordSeats laws = Due.chamber(Texts.LAWS);
        DUE.is("laws: cover(63)", 2, laws.cover(63));
        DUE.is("laws: covers(63)", 33, laws.covers(63));
        DUE.is("laws: covers(4)", 2, laws.covers(4));
        DUE.is("laws: covers(32)", 32, laws.covers(32));
    }

    private static void houses() {
        WordSeats x = Due.chamber(Texts.TONGUE);
        DUE.is("house()", 234, x.house());
        DUE.is("housed()", 9, x.housed());
        WordSeats like = Due.chamber("chamber meanings 1 law first bar 0 dies 1;district seats 1;district seats 1;"
            + "word letters 5 in 0 party 0 means 0;word letters 2 in 0 party 0 means 0;word letters 2 in 1 party 0 means 0;"
            + "speaker in 1 votes 3 comes 0 needs 0;");
        DUE.is("like: house()", 6, like.house());
        DUE.is("like, the least set: housed()", 2, like.housed());
        WordSeats bare = Due.chamber("chamber meanings 1 law first bar 0 dies 1;");
        DUE.is("bare: house()", 0, bare.house());
        DUE.is("bare: housed()", 0, bare.housed());
        DUE.is("bare: cover(0)", 0, bare.cover(0));
        DUE.is("bare: cover(1)", -1, bare.cover(1));
        DUE.is("bare: costs()", 0, bare.costs());
        DUE.is("bare: by(0)", 0, bare.by(0));
        DUE.is("bare: by(1)", -2, bare.by(1));
        WordSeats empty = Due.chamber("chamber meanings 1 law first bar 0 dies 1;district seats 2;");
        DUE.is("nobody stands: cheapest(0)", -1, empty.cheapest(0));
        DUE.is("like, the first: cheapest(0)", 1, like.cheapest(0));
        like.stand(2, 0);
        DUE.is("like, the first of two: cheapest(0)", 1, like.cheapest(0));
    }

    private static void feints() {
        WordSeats x = Due.chamber(Texts.SPOILT);
        int[] feint = {-1, 2, -1, 2, -2};
        int[] gains = {0, 1, 0, 1, -2};
        for (int speaker = 0; speaker < 5; speaker++) {
            DUE.is("feint(" + speaker + ")", feint[speaker], x.feint(speaker));
            DUE.is("gains(" + speaker + ")", gains[speaker], x.gains(speaker));
        }
        DUE.is("feint(-1)", -2, x.feint(-1));
        DUE.is("gains(-1)", -2, x.gains(-1));
        DUE.is("restless()", 10, x.restless());
        DUE.is("all as ever: votes(1)", 5, x.votes(1));
    }

    private static void feintsByLaw() {
        WordSeats x = Due.chamber(Texts.SPOILT);
        x.bill(0, 1);
        DUE.is("runoff: restless()", 10, x.restless());
        DUE.is("runoff: feint(1)", 2, x.feint(1));
        x.bill(0, 2);
        DUE.is("strike: restless()", 0, x.restless());
        x.bill(0, 3);
        DUE.is("approve: restless()", 0, x.restless());
        // By approve all that it likes stay liked, so that one word more never brings a gain.
        x.bill(1, 70);
        DUE.is("approve, bar 70: sits(0, 3)", -1, x.sits(0, 3));
        DUE.is("approve, bar 70: restless()", 0, x.restless());
        // Word 0 has 6 of 18 and nobody sits; with the votes of speaker 1 another one would, which speaker 2 likes too.
        x.bill(0, 0);
        x.bill(1, 50);
        DUE.is("bar 50: sits(0, 0)", -1, x.sits(0, 0));
        DUE.is("bar 50: feint(1)", 2, x.feint(1));
        DUE.is("bar 50: gains(1)", 1, x.gains(1));
        DUE.is("bar 50: feint(2)", -1, x.feint(2));
        DUE.is("bar 50: restless()", 2, x.restless());
    }

    /** Speaker 1 can have word 1 (liked once) or word 2 (twice) sit; speaker 2 words 2 and 3 alike. */
    private static void greatestGain() {
        WordSeats x = Due.chamber("chamber meanings 4 law first bar 0 dies 1;district seats 1;"
            + "word letters 3 in 0 party 0 means 0;word letters 9 in 0 party 0 means 1;"
            + "word letters 5 in 0 party 0 means 1 2;word letters 4 in 0 party 0 means 1 2 3;"
            + "speaker in 0 votes 5 comes 0 needs 0;speaker in 0 votes 3 comes 0 needs 1 2 3;"
            + "speaker in 0 votes 3 comes 0 needs 1;speaker in 0 votes 3 comes 0 needs 2;");
        DUE.is("sits(0, 0)", 0, x.sits(0, 0));
        DUE.is("feint(0)", -1, x.feint(0));
        DUE.is("feint(1)", 2, x.feint(1));
        DUE.is("gains(1)", 2, x.gains(1));
        DUE.is("feint(2)", 2, x.feint(2));
        DUE.is("gains(2)", 1, x.gains(2));
        DUE.is("feint(3)", 3, x.feint(3));
        DUE.is("restless()", 14, x.restless());
        // Speaker 0 votes for word 2, the longer one; with its votes word 0 would sit, which it likes as much.
        WordSeats first = Due.chamber("chamber meanings 3 law first bar 0 dies 1;district seats 1;"
            + "word letters 2 in 0 party 0 means 0 2;word letters 3 in 0 party 0 means 1;word letters 9 in 0 party 0 means 0;"
            + "speaker in 0 votes 3 comes 0 needs 0;speaker in 0 votes 4 comes 0 needs 1;speaker in 0 votes 2 comes 0 needs 2;");
        DUE.is("first: sits(0, 0)", 1, first.sits(0, 0));
        DUE.is("first: feint(0)", 0, first.feint(0));
        DUE.is("first: gains(0)", 1, first.gains(0));
        DUE.is("first: restless()", 1, first.restless());
    }

    private static void withoutChamber() {
        WordSeats x = new WordSeats();
        DUE.is("none: said(0)", -2, x.said(0));
        DUE.is("none: least(0)", -2, x.least(0));
        DUE.is("none: round(0)", -2, x.round(0));
        DUE.is("none: dumb()", -2, x.dumb());
        DUE.is("none: cost(0)", -2, x.cost(0));
        DUE.is("none: costs()", -2, x.costs());
        DUE.is("none: by(0)", -2, x.by(0));
        DUE.is("none: cheapest(0)", -2, x.cheapest(0));
        DUE.is("none: cover(0)", -2, x.cover(0));
        DUE.is("none: covers(0)", -2, x.covers(0));
        DUE.is("none: house()", -2, x.house());
        DUE.is("none: housed()", -2, x.housed());
        DUE.is("none: feint(0)", -2, x.feint(0));
        DUE.is("none: gains(0)", -2, x.gains(0));
        DUE.is("none: restless()", -2, x.restless());
    }
}
