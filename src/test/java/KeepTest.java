/** Promises 60 to 65: what is counted, images gone back to, slots with rows. */
final class KeepTest {
    private static final Due DUE = new Due();

    public static void main(String[] args) {
        counts();
        images();
        imagesKeepTerms();
        imagesKeepTheChamberAlone();
        rows();
        writes();
        pastes();
        pastesRefused();
        DUE.close();
    }

    private static void counts() {
        WordSeats x = Due.chamber(Texts.SPOILT);
        x.term();
        Due.tell(x, "twelve bytes");
        x.row(2, 0, 0);
        int[] due = {4, 0, 0, 3, 1, 4, 4, 0, 1, 10, 12, 1, -1};
        for (int what = 0; what < due.length; what++) {
            DUE.is("count(" + what + ")", due[what], x.count(what));
        }
        DUE.is("count(-1)", -1, x.count(-1));
        x.bill(0, 2);
        x.bill(1, 7);
        DUE.is("count(1)", 2, x.count(1));
        DUE.is("count(2)", 7, x.count(2));
        x.row(0, 3, 60);
        DUE.is("count(11)", 2, x.count(11));
        x.row(0, 1, 4);
        DUE.is("count(11)", 2, x.count(11));
    }

    private static void images() {
        WordSeats x = Due.chamber(Texts.SPOILT);
        DUE.is("back(0)", -6, x.back(0));
        DUE.is("image(3)", -2, x.image(3));
        DUE.is("image(-1)", -2, x.image(-1));
        DUE.is("back(3)", -2, x.back(3));
        DUE.is("back(-1)", -2, x.back(-1));
        DUE.is("image(0)", 0, x.image(0));
        x.term();
        x.term();
        x.need(0, 2);
        DUE.is("image(1)", 0, x.image(1));
        x.term();
        x.bill(0, 3);
        x.bill(1, 9);
        x.bill(2, 8);
        DUE.is("back(1)", 0, x.back(1));
        DUE.is("1: count(1)", 0, x.count(1));
        DUE.is("1: count(2)", 0, x.count(2));
        DUE.is("1: count(3)", 3, x.count(3));
        DUE.is("1: count(8)", 2, x.count(8));
        DUE.is("1: sitting()", 1, x.sitting());
        DUE.is("1: word(1, 4)", 2, x.word(1, 4));
        DUE.is("1: word(2, 5)", 0, x.word(2, 5));
        DUE.is("1: speaker(0, 3)", 2, x.speaker(0, 3));
        DUE.is("1: led(1)", 1, x.led(1));
        DUE.is("1: led(2)", -1, x.led(2));
        DUE.is("1: undo()", 1, x.undo());
        DUE.is("1: word(1, 4)", 1, x.word(1, 4));
        DUE.is("1: word(3, 4)", 1, x.word(3, 4));
        DUE.is("back(2)", -6, x.back(2));
        DUE.is("back(0)", 0, x.back(0));
        DUE.is("0: count(8)", 0, x.count(8));
        DUE.is("0: speaker(0, 3)", 1, x.speaker(0, 3));
        DUE.is("0: undo()", -5, x.undo());
        x.stand(0, 0);
        x.need(3, 1);
        DUE.is("back(0)", 0, x.back(0));
        DUE.is("as it was: speaker(3, 3)", 12, x.speaker(3, 3));
        DUE.is("back(1)", 0, x.back(1));
        DUE.is("as it was: count(8)", 2, x.count(8));
    }

    /** Another chamber with terms of its own comes between an image and what it is gone back to. */
    private static void imagesKeepTerms() {
        WordSeats x = Due.chamber(Texts.SPOILT);
        x.bill(2, 9);
        for (int i = 0; i < 5; i++) {
            x.term();
        }
        x.image(1);
        Due.tell(x, Texts.LAWS);
        x.chamber();
        for (int i = 0; i < 7; i++) {
            x.term();
        }
        DUE.is("back(1)", 0, x.back(1));
        for (int held = 5; held > 0; held--) {
            DUE.is("word(0, 4)", 0, x.word(0, 4));
            DUE.is("word(3, 4)", held, x.word(3, 4));
            DUE.is("word(3, 5)", 0, x.word(3, 5));
            DUE.is("sitting()", 1, x.sitting());
            DUE.is("undo()", held - 1, x.undo());
        }
        DUE.is("sitting()", 0, x.sitting());
    }

    private static void imagesKeepTheChamberAlone() {
        WordSeats x = new WordSeats();
        DUE.is("none: image(2)", 0, x.image(2));
        Due.tell(x, Texts.TONGUE);
        x.chamber();
        x.image(0);
        Due.tell(x, "chamber;");
        DUE.is("chamber()", -4, x.chamber());
        x.row(1, 0, 2);
        DUE.is("back(2)", 0, x.back(2));
        DUE.is("none: count(9)", 0, x.count(9));
        DUE.is("none: count(4)", 0, x.count(4));
        DUE.is("none: word(0, 0)", -2, x.word(0, 0));
        DUE.is("the fault stays: fault(0)", 1, x.fault(0));
        DUE.is("its place stays: fault(1)", 7, x.fault(1));
        DUE.is("the tape stays: count(10)", 8, x.count(10));
        DUE.is("the slots stay: count(11)", 1, x.count(11));
        DUE.is("back(0)", 0, x.back(0));
        DUE.is("count(9)", 15, x.count(9));
        DUE.is("count(7)", 4, x.count(7));
        DUE.is("by(9)", 234, x.by(9));
        DUE.is("district(1, 0)", 2, x.district(1, 0));
        DUE.is("fits(1)", 3, x.fits(1));
    }

    private static void rows() {
        WordSeats x = Due.chamber(Texts.TONGUE);
        DUE.is("row(0, 0, 61)", -2, x.row(0, 0, 61));
        DUE.is("row(4, 0, 1)", -2, x.row(4, 0, 1));
        DUE.is("row(-1, 0, 1)", -2, x.row(-1, 0, 1));
        DUE.is("row(0, 4, 1)", -2, x.row(0, 4, 1));
        DUE.is("row(0, -1, 1)", -2, x.row(0, -1, 1));
        DUE.is("row(4, 0, -1)", -2, x.row(4, 0, -1));
        DUE.is("row(0, 4, -1)", -2, x.row(0, 4, -1));
        DUE.is("row(0, 0, -1)", -3, x.row(0, 0, -1));
        DUE.is("row(0, 0, MIN)", -3, x.row(0, 0, Integer.MIN_VALUE));
        DUE.is("refused: count(11)", 0, x.count(11));
        DUE.is("row(0, 3, 60)", 0, x.row(0, 3, 60));
        x.write(0, 59, 1);
        DUE.is("row(0, 0, -1)", -3, x.row(0, 0, -1));
        DUE.is("the slot stays: fits(0)", 0, x.fits(0));
        DUE.is("row(0, 0, 60)", 0, x.row(0, 0, 60));
        DUE.is("all 0: fits(0)", 3, x.fits(0));
        DUE.is("row(0, 0, 0)", 0, x.row(0, 0, 0));
        DUE.is("no number: fits(0)", 9, x.fits(0));
        DUE.is("a row all the same: count(11)", 1, x.count(11));
        x.row(0, 0, 2);
        DUE.is("all 0: fits(0)", 3, x.fits(0));
    }

    private static void writes() {
        WordSeats x = Due.chamber(Texts.TONGUE);
        DUE.is("write(4, 0, 0)", -2, x.write(4, 0, 0));
        DUE.is("write(-1, 0, 0)", -2, x.write(-1, 0, 0));
        DUE.is("write(0, 0, 0)", -6, x.write(0, 0, 0));
        x.row(0, 0, 2);
        DUE.is("write(0, 2, 0)", -7, x.write(0, 2, 0));
        DUE.is("write(0, -1, 0)", -7, x.write(0, -1, 0));
        DUE.is("write(0, 0, 1)", 0, x.write(0, 0, 1));
        DUE.is("write(0, 1, 2)", 0, x.write(0, 1, 2));
        DUE.is("1 by 2: sure(0, 0)", 4, x.sure(0, 0));
        DUE.is("write(0, 1, 257)", 0, x.write(0, 1, 257));
        DUE.is("1 by 1: sure(0, 0)", 2, x.sure(0, 0));
        x.row(1, 0, 0);
        DUE.is("write(1, 0, 0)", -7, x.write(1, 0, 0));
    }

    /** What rows hold is seen by who is sure to have sat. */
    private static void pastes() {
        WordSeats x = Due.chamber(Texts.TONGUE);
        x.row(0, 1, 6);
        int[] numbers = {0, 0, 1, 2, 3, 9};
        for (int i = 0; i < 6; i++) {
            x.write(0, i, numbers[i]);
        }
        x.row(1, 1, 4);
        DUE.is("paste(0, 2, 1, 0, 2)", 0, x.paste(0, 2, 1, 0, 2));
        DUE.is("1 2 0 0: sure(1, 0)", 5, x.sure(1, 0));
        DUE.is("paste(0, 2, 1, 2, 2)", 0, x.paste(0, 2, 1, 2, 2));
        DUE.is("1 2 1 2: sure(1, 0)", 4, x.sure(1, 0));
        DUE.is("the source stays: fits(0)", 1, x.fits(0));
        DUE.is("paste(0, 0, 0, 2, 4), upon itself", 0, x.paste(0, 0, 0, 2, 4));
        DUE.is("0 0 0 0 1 2: sure(0, 0)", 5, x.sure(0, 0));
        DUE.is("paste(0, 4, 0, 0, 2)", 0, x.paste(0, 4, 0, 0, 2));
        DUE.is("paste(0, 2, 0, 1, 4), upon itself", 0, x.paste(0, 2, 0, 1, 4));
        // 1 2 0 0 1 2 has become 1 0 0 1 2 2: word 0 does not mean 1.
        DUE.is("1 0 0 1 2 2: fits(0)", 0, x.fits(0));
        x.write(0, 1, 2);
        x.write(0, 3, 0);
        DUE.is("1 2 0 0 2 2: sure(0, 0)", 5, x.sure(0, 0));
        DUE.is("paste(0, 6, 1, 4, 0), none", 0, x.paste(0, 6, 1, 4, 0));
        DUE.is("paste(0, 0, 0, 0, 6)", 0, x.paste(0, 0, 0, 0, 6));
    }

    private static void pastesRefused() {
        WordSeats x = Due.chamber(Texts.TONGUE);
        DUE.is("paste(0, 0, 1, 0, 0), nothing", -6, x.paste(0, 0, 1, 0, 0));
        x.row(0, 1, 6);
        DUE.is("paste(0, 0, 1, 0, 0), nothing there", -6, x.paste(0, 0, 1, 0, 0));
        DUE.is("paste(1, 0, 0, 0, 0), nothing here", -6, x.paste(1, 0, 0, 0, 0));
        DUE.is("paste(4, 0, 0, 0, 0)", -2, x.paste(4, 0, 0, 0, 0));
        DUE.is("paste(0, 0, 4, 0, 0)", -2, x.paste(0, 0, 4, 0, 0));
        DUE.is("paste(-1, 0, 0, 0, 0)", -2, x.paste(-1, 0, 0, 0, 0));
        DUE.is("paste(0, 0, -1, 0, 0)", -2, x.paste(0, 0, -1, 0, 0));
        DUE.is("paste(1, 0, 4, 0, 0)", -2, x.paste(1, 0, 4, 0, 0));
        x.row(1, 0, 4);
        DUE.is("paste(0, 0, 1, 0, 1), widths", -8, x.paste(0, 0, 1, 0, 1));
        DUE.is("paste(0, 9, 1, 9, 9), widths", -8, x.paste(0, 9, 1, 9, 9));
        x.row(1, 1, 4);
        x.write(0, 0, 1);
        x.write(0, 1, 1);
        int max = Integer.MAX_VALUE;
        int[][] beyond = {{0, 0, 5}, {0, 1, 4}, {3, 0, 4}, {7, 0, 0}, {0, 5, 0}, {-1, 0, 1}, {0, -1, 1}, {0, 0, -1},
            {max, 0, 1}, {0, max, 1}, {0, 0, max}, {max, max, max}, {1, 1, max}, {Integer.MIN_VALUE, 0, max}};
        for (int[] b : beyond) {
            DUE.is("paste(0, " + b[0] + ", 1, " + b[1] + ", " + b[2] + ")", -7, x.paste(0, b[0], 1, b[1], b[2]));
        }
        DUE.is("nothing happened: sure(1, 0)", 1, x.sure(1, 0));
    }
}
