/** Promises 52 to 54: speeches, and who sat by them. */
final class SpeechTest {
    private static final Due DUE = new Due();

    public static void main(String[] args) {
        whoSaid();
        whoSat();
        refused();
        numbers();
        DUE.close();
    }

    private static void lay(WordSeats x, int slot, int width, int... numbers) {
        x.row(slot, width, numbers.length);
        for (int i = 0; i < numbers.length; i++) {
            x.write(slot, i, numbers[i]);
        }
    }

    /** Words 0 and 2 sit: meaning 3 is said round, meaning 4 is dumb. */
    private static void whoSaid() {
        WordSeats x = Due.chamber(Texts.TONGUE);
        lay(x, 0, 0, 0, 0);
        DUE.is("nobody sits: speech(0)", 0, x.speech(0));
        x.term();
        said(x, -1, 0, 0, 1, 2, 2, 2, 3, 9);
        said(x, 0, 2, 9);
        said(x, 1, 0, 0, 2, 9, 4, 9);
        said(x, 2, 0, 0, 3, 9, 4, 9);
        said(x, 0, 1, 1);
        said(x, 3, 0, 0, 0, 0, 0, 0, 3, 0);
        said(x, 0, 0, 9);
        said(x, 0, 2, 3);
        said(x, -1);
    }

    private static void said(WordSeats x, int want, int... numbers) {
        lay(x, 1, 1, numbers);
        DUE.is("speech " + java.util.Arrays.toString(numbers), want, x.speech(1));
    }

    /** Nine ways: nobody, word 0 or word 1 by nobody, word 2 or word 3. */
    private static void whoSat() {
        WordSeats x = Due.chamber(Texts.TONGUE);
        sat(x, 9, 0, 15);
        sat(x, 3, 1, 13, 0, 0);
        sat(x, 3, 1, 13, 3, 9);
        sat(x, 1, 1, 1, 2, 9);
        sat(x, 2, 1, 9, 1, 9);
        sat(x, 1, 9, 9, 1, 9, 2, 3);
        sat(x, 0, 0, 0, 0, 0, 1, 1);
        sat(x, 0, 0, 0, 4, 9);
        sat(x, 0, 0, 0, 0, 1);
        sat(x, 3, 4, 7, 1, 2);
        x.term();
        sat(x, 2, 1, 9, 1, 9);
        // With all in one district but one way each there are five ways.
        WordSeats one = Due.chamber(Texts.TONGUE);
        one.stand(2, 0);
        one.stand(3, 0);
        sat(one, 5, 0, 15);
        sat(one, 1, 4, 4, 1, 2);
        // Words 0 and 3 are of one district, the others of one each.
        WordSeats three = Due.chamber("chamber meanings 1 law first bar 0 dies 1;district seats 1;district seats 1;district seats 1;"
            + "word letters 1 in 0 party 0 means 0;word letters 1 in 1 party 0 means 0;word letters 1 in 2 party 0 means 0;"
            + "word letters 1 in 0 party 0 means 0;");
        sat(three, 12, 0, 15);
        sat(three, 0, 0, 0, 0, 0, 0, 1, 0, 3);
        sat(three, 1, 7, 7, 0, 0, 0, 1, 0, 2);
        WordSeats bare = Due.chamber("chamber meanings 1 law first bar 0 dies 1;");
        sat(bare, 1, 0, 0);
        sat(bare, 0, 0, 0, 0, 9);
    }

    private static void sat(WordSeats x, int ways, int all, int some, int... numbers) {
        lay(x, 2, 2, numbers);
        String speech = java.util.Arrays.toString(numbers);
        DUE.is("fits " + speech, ways, x.fits(2));
        DUE.is("sure, in all " + speech, all, x.sure(2, 0));
        DUE.is("sure, in some " + speech, some, x.sure(2, 1));
    }

    private static void refused() {
        WordSeats none = new WordSeats();
        all(none, 0, -2, "no chamber, nothing");
        lay(none, 0, 0, 0, 0);
        all(none, 0, -2, "no chamber");
        WordSeats x = Due.chamber(Texts.TONGUE);
        all(x, 4, -2, "slot 4");
        all(x, -1, -2, "slot -1");
        all(x, 3, -6, "nothing");
        lay(x, 3, 0, 0, 0, 0);
        all(x, 3, -2, "three numbers");
        lay(x, 3, 0, 5, 0);
        all(x, 3, -2, "meaning 5");
        lay(x, 3, 0, -1, 0);
        all(x, 3, -2, "meaning -1");
        lay(x, 3, 0, 0, 4);
        all(x, 3, -2, "word 4");
        lay(x, 3, 0, 0, -1);
        all(x, 3, -2, "word -1");
        lay(x, 3, 0, 0, 10);
        all(x, 3, -2, "word 10");
        lay(x, 3, 0, 4, 9, 0, 8);
        all(x, 3, -2, "a number that is none behind what cannot have been");
        lay(x, 3, 0, 0, 0);
        DUE.is("sure(3, 2)", -2, x.sure(3, 2));
        DUE.is("sure(3, -1)", -2, x.sure(3, -1));
        DUE.is("sure(0, 2), nothing", -2, x.sure(0, 2));
    }

    private static void all(WordSeats x, int slot, int want, String what) {
        DUE.is(what + ": speech", want, x.speech(slot));
        DUE.is(what + ": fits", want, x.fits(slot));
        DUE.is(what + ": sure in all", want, x.sure(slot, 0));
        DUE.is(what + ": sure in some", want, x.sure(slot, 1));
    }

    /** A number is cut to its width when it is written, and by nothing else. */
    private static void numbers() {
        WordSeats x = Due.chamber(Texts.TONGUE);
        long[] cut = {1L << 8, 1L << 16, 1L << 32};
        for (int width = 0; width < 4; width++) {
            for (int i = 0; i < 3; i++) {
                x.row(0, width, 2);
                x.write(0, 1, cut[i]);
                DUE.is("width " + width + ": " + cut[i], i >= width ? 3 : -2, x.fits(0));
                x.write(0, 1, -cut[i]);
                DUE.is("width " + width + ": " + -cut[i], i >= width ? 3 : -2, x.fits(0));
                x.write(0, 1, cut[i] + 9);
                DUE.is("width " + width + ": 9 and " + cut[i], i >= width ? 0 : -2, x.fits(0));
            }
            x.write(0, 1, 255);
            DUE.is("width " + width + ": 255", -2, x.fits(0));
            x.write(0, 1, Long.MIN_VALUE);
            DUE.is("width " + width + ": MIN", width < 3 ? 3 : -2, x.fits(0));
        }
    }
}
