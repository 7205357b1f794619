/** Promises 55 to 59: what is changed, and elections drawn. */
final class ChangeTest {
    private static final Due DUE = new Due();

    public static void main(String[] args) {
        stand();
        need();
        bill();
        drawn();
        justBelow();
        barWhoeverComes();
        years();
        withoutChamber();
        DUE.close();
    }

    private static void stand() {
        WordSeats x = Due.chamber(Texts.LAWS);
        DUE.is("stand(2, 1)", 0, x.stand(2, 1));
        DUE.is("word(2, 1)", 1, x.word(2, 1));
        DUE.is("district(0, 1)", 3, x.district(0, 1));
        DUE.is("district(1, 1)", 252, x.district(1, 1));
        DUE.is("order(6, 0)", 2, x.order(6, 0));
        DUE.is("abstains(1)", 0, x.abstains(1));
        DUE.is("stand(2, 1)", 1, x.stand(2, 1));
        DUE.is("stand(2, 0)", 1, x.stand(2, 0));
        DUE.is("stand(2, 2)", -2, x.stand(2, 2));
        DUE.is("stand(2, -1)", -2, x.stand(2, -1));
        DUE.is("stand(8, 0)", -2, x.stand(8, 0));
        DUE.is("stand(-1, 0)", -2, x.stand(-1, 0));
        x.term();
        DUE.is("behind a term: stand(2, 1)", -5, x.stand(2, 1));
        DUE.is("behind a term: stand(8, 1)", -2, x.stand(8, 1));
        DUE.is("behind a term: word(2, 1)", 0, x.word(2, 1));
        x.undo();
        DUE.is("taken back: stand(2, 1)", 0, x.stand(2, 1));
        DUE.is("lines as ever: count(9)", 20, x.count(9));
    }

    private static void need() {
        WordSeats x = Due.chamber(Texts.LAWS);
        DUE.is("need(6, 8)", 1, x.need(6, 8));
        DUE.is("speaker(6, 3)", 8, x.speaker(6, 3));
        DUE.is("votes(3)", 9, x.votes(3));
        DUE.is("need(6, 0)", -2, x.need(6, 0));
        DUE.is("need(6, 64)", -2, x.need(6, 64));
        DUE.is("need(6, -1)", -2, x.need(6, -1));
        DUE.is("need(7, 1)", -2, x.need(7, 1));
        DUE.is("need(-1, 1)", -2, x.need(-1, 1));
        DUE.is("need(6, 63)", 8, x.need(6, 63));
        x.term();
        DUE.is("behind a term: need(6, 1)", 63, x.need(6, 1));
    }

    private static void bill() {
        WordSeats x = Due.chamber(Texts.LAWS);
        DUE.is("bill(0, 3)", 0, x.bill(0, 3));
        DUE.is("bill(0, 4)", -2, x.bill(0, 4));
        DUE.is("bill(0, -1)", -2, x.bill(0, -1));
        DUE.is("count(1)", 3, x.count(1));
        DUE.is("elected()", 36, x.elected());
        DUE.is("bill(1, 100)", 0, x.bill(1, 100));
        DUE.is("bill(1, 101)", -2, x.bill(1, 101));
        DUE.is("bill(1, -1)", -2, x.bill(1, -1));
        DUE.is("count(2)", 100, x.count(2));
        DUE.is("elected()", 4, x.elected());
        DUE.is("bill(2, 9)", 2, x.bill(2, 9));
        DUE.is("bill(2, 10)", -2, x.bill(2, 10));
        DUE.is("bill(2, 0)", -2, x.bill(2, 0));
        DUE.is("count(3)", 9, x.count(3));
        DUE.is("bill(3, 1)", -2, x.bill(3, 1));
        DUE.is("bill(-1, 1)", -2, x.bill(-1, 1));
        x.term();
        DUE.is("behind a term: bill(0, 0)", 3, x.bill(0, 0));
    }

    /** By approve word 5 sits if speaker 4 or 5 comes; else 6 votes are alike and word 3, the longer one, does. */
    private static void drawn() {
        WordSeats x = Due.chamber(Texts.LAWS);
        x.bill(0, 3);
        int[] due = {5, 5, 5, 5, 5, 3, 3, 5, 5, 5, 5, 5};
        for (int seed = 0; seed < due.length; seed++) {
            DUE.is("drawn(" + seed + ", 1)", due[seed], x.drawn(seed, 1));
        }
        DUE.is("drawn(2000000000, 1)", 5, x.drawn(2000000000, 1));
        DUE.is("drawn(2000000001, 1)", -2, x.drawn(2000000001, 1));
        DUE.is("drawn(-1, 1)", -2, x.drawn(-1, 1));
        DUE.is("drawn(0, 2)", -2, x.drawn(0, 2));
        DUE.is("drawn(0, -1)", -2, x.drawn(0, -1));
        // Speaker 1 comes below 60: its second draw is 68 by seed 0, 58 by seed 1; speaker 2 never comes.
        DUE.is("drawn(0, 0)", 2, x.drawn(0, 0));
        x.bill(0, 1);
        DUE.is("runoff: drawn(0, 0)", 0, x.drawn(0, 0));
        x.need(0, 8);
        DUE.is("speaker 0 likes nobody: drawn(0, 0)", -1, x.drawn(0, 0));
        DUE.is("speaker 0 likes nobody: drawn(1, 0)", 1, x.drawn(1, 0));
    }

    /** By seed 1 the draws are 38, 58, 13: who comes has one below its number. */
    private static void justBelow() {
        for (int comes = 37; comes <= 39; comes++) {
            WordSeats x = Due.chamber("chamber meanings 1 law first bar 0 dies 1;district seats 1;word letters 1 in 0 party 0 means 0;"
                + "speaker in 0 votes 1 comes " + comes + " needs 0;");
            DUE.is("comes " + comes + ": drawn(1, 0)", comes > 38 ? 0 : -1, x.drawn(1, 0));
        }
        WordSeats x = Due.chamber("chamber meanings 1 law first bar 0 dies 1;district seats 1;district seats 1;"
            + "word letters 1 in 0 party 0 means 0;word letters 1 in 1 party 0 means 0;"
            + "speaker in 1 votes 1 comes 39 needs 0;speaker in 0 votes 1 comes 58 needs 0;speaker in 1 votes 1 comes 13 needs 0;");
        DUE.is("58 of 58: drawn(1, 0)", -1, x.drawn(1, 0));
        DUE.is("38 of 39: drawn(1, 1)", 1, x.drawn(1, 1));
    }

    /** 8 of 20 votes come: those who stay away count for the bar. */
    private static void barWhoeverComes() {
        WordSeats x = Due.chamber(Texts.LAWS);
        x.bill(1, 40);
        DUE.is("bar 40: drawn(0, 0)", 0, x.drawn(0, 0));
        x.bill(1, 41);
        DUE.is("bar 41: drawn(0, 0)", -1, x.drawn(0, 0));
    }

    private static void years() {
        WordSeats x = Due.chamber(Texts.LAWS);
        x.bill(0, 3);
        DUE.is("years(0, 1, 5)", 1, x.years(0, 1, 5));
        DUE.is("years(0, 7, 5)", 5, x.years(0, 7, 5));
        DUE.is("years(0, 12, 3)", 2, x.years(0, 12, 3));
        DUE.is("years(5, 2, 3)", 2, x.years(5, 2, 3));
        DUE.is("years(5, 2, 5)", 0, x.years(5, 2, 5));
        DUE.is("years(0, 12, 4)", 0, x.years(0, 12, 4));
        DUE.is("years(2000000000, 2, 5)", 2, x.years(2000000000, 2, 5));
        DUE.is("years(2000000001, 2, 5)", -2, x.years(2000000001, 2, 5));
        DUE.is("years(-1, 2, 5)", -2, x.years(-1, 2, 5));
        DUE.is("years(0, 0, 5)", -2, x.years(0, 0, 5));
        DUE.is("years(0, 21, 5)", -2, x.years(0, 21, 5));
        DUE.is("years(0, 2, 8)", -2, x.years(0, 2, 8));
        DUE.is("years(0, 2, -1)", -2, x.years(0, 2, -1));
        DUE.is("years(0, 20, 0)", 0, x.years(0, 20, 0));
        x.bill(0, 0);
        DUE.is("first: years(0, 20, 0)", 20, x.years(0, 20, 0));
    }

    private static void withoutChamber() {
        WordSeats x = new WordSeats();
        DUE.is("none: stand(0, 0)", -2, x.stand(0, 0));
        DUE.is("none: need(0, 1)", -2, x.need(0, 1));
        DUE.is("none: bill(0, 0)", -2, x.bill(0, 0));
        DUE.is("none: drawn(0, 0)", -2, x.drawn(0, 0));
        DUE.is("none: years(0, 1, 0)", -2, x.years(0, 1, 0));
    }
}
