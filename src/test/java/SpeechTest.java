import java.util.Arrays;

/** Promises 52 to 54: speeches, and who sat by them. */
final class SpeechTest {
    private static final int FAR = Integer.MAX_VALUE;
    private static final int FAR_BELOW = Integer.MIN_VALUE;

    public static void main(String[] args) {
        Suite.run(SpeechTest.class);
    }

    private static void lay(WordSeats x, int slot, long... numbers) {
        Due.lay(x, slot, 3, numbers);
    }

    /** Words 0 (means 0) and 2 (means 1 2) sit: meaning 3 is said round, meaning 4 is dumb. */
    private static WordSeats twoSit() {
        WordSeats x = Due.chamber(Texts.TONGUE);
        x.term();
        return x;
    }

    private static void said(Due due, WordSeats x, int want, long... numbers) {
        lay(x, 1, numbers);
        due.is("speech " + Arrays.toString(numbers), want, x.speech(1));
    }

    private static void sat(Due due, WordSeats x, int ways, int all, int some, long... numbers) {
        lay(x, 2, numbers);
        String speech = Arrays.toString(numbers);
        due.is("fits " + speech, ways, x.fits(2));
        due.is("sure, in all " + speech, all, x.sure(2, 0));
        due.is("sure, in some " + speech, some, x.sure(2, 1));
    }

    /** What all of the three calls answer of a slot. */
    private static void refused(Due due, WordSeats x, int slot, int want, String why) {
        due.is(why + ": speech(" + slot + ")", want, x.speech(slot));
        due.is(why + ": fits(" + slot + ")", want, x.fits(slot));
        due.is(why + ": sure(" + slot + ", 0)", want, x.sure(slot, 0));
        due.is(why + ": sure(" + slot + ", 1)", want, x.sure(slot, 1));
    }

    private static void refused(Due due, int want, String why, long... numbers) {
        WordSeats x = twoSit();
        lay(x, 3, numbers);
        refused(due, x, 3, want, why + " " + Arrays.toString(numbers));
    }

    // promise 52

    @Says("SPEECH: a SLOT's row, two numbers each: a MEANING, the WORD by which it was said")
    static void promise52_aMeaningAndTheWord(Due due) {
        WordSeats x = twoSit();
        said(due, x, -1, 0, 0, 1, 2, 2, 2);
        // Meaning 2 by word 1, not meaning 1 by word 2.
        said(due, x, 0, 2, 1);
        said(due, x, -1, 1, 2);
        for (int slot = 0; slot < 4; slot++) {
            lay(x, slot, 0, 0, slot, 2);
        }
        due.row("each slot has its own: speech(", Due.ints(1, -1, -1, 1), x::speech);
    }

    @Says("(9: it was said round):")
    static void promise52_9IsRound(Due due) {
        WordSeats x = twoSit();
        said(due, x, -1, 3, 9);
        said(due, x, -1, 0, 0, 3, 9, 3, 9);
        said(due, x, 0, 3, 0);
        // With nine words 8 is one of them, 9 never is.
        Town town = Town.of(2).district(1);
        for (int i = 0; i < 9; i++) {
            town.word(1 + i, 0, 0, 0);
        }
        WordSeats nine = town.speaker(0, 1, 0).round(1, 0, 0).open();
        nine.term();
        said(due, nine, -1, 0, 8, 1, 9);
    }

    @Says("the first (from 0) that cannot have been by who is SITTING")
    static void promise52_theFirstThatCannot(Due due) {
        WordSeats x = twoSit();
        said(due, x, 0, 4, 9, 0, 0, 4, 9);
        said(due, x, 1, 0, 0, 2, 9, 4, 9);
        said(due, x, 3, 0, 0, 0, 0, 0, 0, 3, 0);
        long[] full = new long[60];
        said(due, x, -1, full);
        full[59] = 1;
        said(due, x, 29, full);
        // By who is sitting, not by who would sit.
        x.need(0, 2);
        due.is("elected()", 6, x.elected());
        said(due, x, -1, 0, 0);
        x.undo();
        said(due, x, 0, 0, 0);
    }

    @Says("(a WORD that does not mean it,")
    static void promise52_doesNotMeanIt(Due due) {
        WordSeats x = twoSit();
        said(due, x, 0, 1, 0);
        said(due, x, 0, 0, 2);
        said(due, x, 0, 3, 0);
        said(due, x, 1, 2, 2, 3, 2);
    }

    @Says("or does not SIT;")
    static void promise52_doesNotSit(Due due) {
        WordSeats x = twoSit();
        said(due, x, 0, 1, 1);
        said(due, x, 0, 2, 3);
        WordSeats nobody = Due.chamber(Texts.TONGUE);
        said(due, nobody, 0, 0, 0);
        said(due, nobody, 0, 2, 2);
    }

    @Says("round: it is DUMB")
    static void promise52_roundIsDumb(Due due) {
        WordSeats x = twoSit();
        said(due, x, 0, 4, 9);
        WordSeats nobody = Due.chamber(Texts.TONGUE);
        for (int meaning = 0; meaning < 5; meaning++) {
            said(due, nobody, 0, meaning, 9);
        }
    }

    /** Meaning 1 is said by 9 letters, and round by 4, 4 and one. */
    @Says("or LEAST is by SAID).")
    static void promise52_leastIsBySaid(Due due) {
        WordSeats x = twoSit();
        said(due, x, 0, 0, 9);
        said(due, x, 0, 1, 9);
        said(due, x, 0, 2, 9);
        for (int letters = 8; letters <= 10; letters++) {
            WordSeats y = Town.of(2).district(1).district(1).word(4, 0, 0, 0).word(letters, 1, 0, 1)
                .speaker(0, 1, 0).speaker(1, 1, 1).round(1, 0, 0).open();
            y.term();
            said(due, y, letters > 9 ? -1 : 0, 1, 9);
            said(due, y, -1, 1, 1);
        }
    }

    @Says("NONE: all can;")
    static void promise52_allCan(Due due) {
        WordSeats x = twoSit();
        said(due, x, -1, 0, 0, 1, 2, 2, 2, 3, 9);
        said(due, x, -1);
        said(due, Due.chamber(Texts.TONGUE), -1);
    }

    @Says("-2: there is no such SLOT,")
    static void promise52_noSuchSlot(Due due) {
        due.all("speech(", -2, twoSit()::speech, -1, 4, FAR, FAR_BELOW);
    }

    @Says("no CHAMBER,")
    static void promise52_noChamber(Due due) {
        WordSeats x = new WordSeats();
        lay(x, 0, 0, 0);
        lay(x, 1);
        due.row("speech(", Due.ints(-2, -2, -2, -2, -2), x::speech);
    }

    @Says("a number is none (asked last),")
    static void promise52_aNumberIsNone(Due due) {
        refused(due, -2, "a meaning that is none", 5, 0);
        refused(due, -2, "a meaning that is none", -1, 0);
        refused(due, -2, "a meaning that is none", 1L << 32, 0);
        refused(due, -2, "a word that is none", 0, 4);
        refused(due, -2, "a word that is none", 0, 8);
        refused(due, -2, "a word that is none", 0, -1);
        refused(due, -2, "a word that is none", 0, 10);
        refused(due, -2, "a word that is none", 0, Long.MIN_VALUE);
        refused(due, -2, "behind what cannot have been", 4, 9, 0, 8);
        refused(due, -2, "ahead of what cannot have been", 9, 9, 4, 9);
        WordSeats x = twoSit();
        refused(due, x, 3, -6, "there are no numbers to ask");
    }

    @Says("not two each;")
    static void promise52_notTwoEach(Due due) {
        refused(due, -2, "one", 0);
        refused(due, -2, "three", 0, 0, 0);
        WordSeats x = twoSit();
        x.row(3, 0, 59);
        refused(due, x, 3, -2, "fifty-nine");
    }

    @Says("-6: it has nothing.")
    static void promise52_itHasNothing(Due due) {
        WordSeats x = twoSit();
        lay(x, 0, 0, 0);
        due.row("speech(", Due.ints(-1, -6, -6, -6), x::speech);
    }

    // promises 53 and 54

    /** Nine ways in all: nobody, word 0 or word 1, by nobody, word 2 or word 3. */
    @Says("In how many ways one WORD")
    static void promise53_inHowManyWays(Due due) {
        WordSeats x = Due.chamber(Texts.TONGUE);
        lay(x, 2);
        due.is("no speech: fits(2)", 9, x.fits(2));
        WordSeats three = Town.of(1).district(1).district(1).district(1).word(1, 0, 0, 0).word(1, 1, 0, 0).word(1, 2, 0, 0)
            .word(1, 0, 0, 0).open();
        lay(three, 2);
        due.is("3 by 2 by 2: fits(2)", 12, three.fits(2));
        x.stand(2, 0);
        x.stand(3, 0);
        due.is("5 by 1: fits(2)", 5, x.fits(2));
    }

    @Says("(not dead)")
    static void promise53_notDead(Due due) {
        WordSeats x = Due.chamber(Texts.SPOILT);
        lay(x, 2);
        due.is("fits(2)", 5, x.fits(2));
        lay(x, 0, 1, 1);
        due.is("word 1: fits(0)", 1, x.fits(0));
        for (int i = 0; i < 3; i++) {
            x.term();
        }
        due.is("three are dead: fits(2)", 2, x.fits(2));
        due.is("word 1 is dead: fits(0)", 0, x.fits(0));
    }

    @Says("or nobody may SIT in each DISTRICT")
    static void promise53_orNobodyInEach(Due due) {
        WordSeats bare = Town.bare();
        lay(bare, 0);
        due.is("no districts: fits(0)", 1, bare.fits(0));
        WordSeats empty = Town.of(1).district(1).district(1).open();
        lay(empty, 0);
        due.is("nobody stands: fits(0)", 1, empty.fits(0));
        WordSeats x = Due.chamber(Texts.TONGUE);
        lay(x, 0, 0, 0);
        due.is("district 1 as it likes: fits(0)", 3, x.fits(0));
        lay(x, 0, 0, 0, 1, 1);
        due.is("two of one district: fits(0)", 0, x.fits(0));
    }

    @Says("so that all can have been.")
    static void promise53_allCanHaveBeen(Due due) {
        WordSeats x = Due.chamber(Texts.TONGUE);
        lay(x, 0, 0, 0);
        lay(x, 1, 1, 9);
        lay(x, 2, 0, 0, 1, 9, 2, 9);
        // 2 is said round by 0 and 0 where nobody says it, and by that 1; with word 3 2 is said, and 1 round.
        due.is("0 by word 0: fits(0)", 3, x.fits(0));
        due.is("1 round: fits(1)", 2, x.fits(1));
        due.is("1 and 2 round: fits(2)", 1, x.fits(2));
        x.term();
        due.is("whoever sits: fits(1)", 2, x.fits(1));
        lay(x, 3, 0, 0, 4, 9);
        due.is("4 is dumb: fits(3)", 0, x.fits(3));
    }

    @Says("-2,")
    static void promise53_noneSuch(Due due) {
        due.all("fits(", -2, twoSit()::fits, -1, 4, FAR, FAR_BELOW);
        due.is("no chamber: fits(0)", -2, new WordSeats().fits(0));
        WordSeats x = twoSit();
        lay(x, 0, 0);
        due.is("not two each: fits(0)", -2, x.fits(0));
        lay(x, 0, 0, 4);
        due.is("a number is none: fits(0)", -2, x.fits(0));
    }

    @Says("-6 likewise.")
    static void promise53_itHasNothing(Due due) {
        WordSeats x = twoSit();
        due.row("fits(", Due.ints(-6, -6, -6, -6), x::fits);
    }

    @Says("WORDS that SIT in all of these (what 0),")
    static void promise54_inAll(Due due) {
        WordSeats x = Due.chamber(Texts.TONGUE);
        sat(due, x, 9, 0, 15);
        sat(due, x, 3, 1, 13, 0, 0);
        sat(due, x, 3, 4, 7, 1, 2);
        sat(due, x, 1, 9, 9, 1, 9, 2, 3);
    }

    @Says("in some (1), as bits")
    static void promise54_inSome(Due due) {
        WordSeats x = Due.chamber(Texts.TONGUE);
        sat(due, x, 3, 1, 13, 3, 9);
        sat(due, x, 2, 1, 9, 1, 9);
        sat(due, x, 1, 1, 1, 2, 9);
        x.term();
        sat(due, x, 2, 1, 9, 1, 9);
        WordSeats three = Town.of(1).district(1).district(1).district(1).word(1, 0, 0, 0).word(1, 1, 0, 0).word(1, 2, 0, 0)
            .word(1, 0, 0, 0).open();
        sat(due, three, 12, 0, 15);
        sat(due, three, 1, 7, 7, 0, 0, 0, 1, 0, 2);
    }

    @Says("(0 without any).")
    static void promise54_withoutAny(Due due) {
        WordSeats x = Due.chamber(Texts.TONGUE);
        sat(due, x, 0, 0, 0, 0, 0, 1, 1);
        sat(due, x, 0, 0, 0, 0, 0, 4, 9);
        sat(due, x, 0, 0, 0, 0, 1);
        WordSeats bare = Town.bare();
        sat(due, bare, 1, 0, 0);
        sat(due, bare, 0, 0, 0, 0, 9);
    }

    @Says("-2,")
    static void promise54_noneSuch(Due due) {
        for (int what = 0; what < 2; what++) {
            int w = what;
            due.all("sure(slot, " + what + "), slot ", -2, slot -> twoSit().sure(slot, w), -1, 4, FAR, FAR_BELOW);
            due.is("no chamber: sure(0, " + what + ")", -2, new WordSeats().sure(0, what));
        }
    }

    @Says("-6 likewise,")
    static void promise54_itHasNothing(Due due) {
        WordSeats x = twoSit();
        due.row("sure(slot, 0), slot ", Due.ints(-6, -6, -6, -6), slot -> x.sure(slot, 0));
        due.row("sure(slot, 1), slot ", Due.ints(-6, -6, -6, -6), slot -> x.sure(slot, 1));
    }

    @Says("no such what.")
    static void promise54_noSuchWhat(Due due) {
        WordSeats x = twoSit();
        lay(x, 0, 0, 0);
        due.all("sure(0, ", -2, what -> x.sure(0, what), -1, 2, FAR, FAR_BELOW);
        due.is("nothing there: sure(1, 2)", -2, x.sure(1, 2));
    }
}
