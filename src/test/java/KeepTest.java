/** Promises 60 to 65: what is counted, images gone back to, slots with rows. */
final class KeepTest {
    private static final int FAR = Integer.MAX_VALUE;
    private static final int FAR_BELOW = Integer.MIN_VALUE;

    public static void main(String[] args) {
        Suite.run(KeepTest.class);
    }

    private static WordSeats tongue() {
        return Due.chamber(Texts.TONGUE);
    }

    // promise 60

    @Says("0 MEANINGS,")
    static void promise60_meanings(Due due) {
        due.is("count(0)", 5, tongue().count(0));
    }

    @Says("1 the law,")
    static void promise60_theLaw(Due due) {
        WordSeats x = Town.of(1).law("approve").open();
        due.is("count(1)", 3, x.count(1));
        x.bill(0, 1);
        due.is("count(1)", 1, x.count(1));
    }

    @Says("2 bar,")
    static void promise60_bar(Due due) {
        WordSeats x = Town.of(1).bar(100).open();
        due.is("count(2)", 100, x.count(2));
        x.bill(1, 7);
        due.is("count(2)", 7, x.count(2));
    }

    @Says("3 dies,")
    static void promise60_dies(Due due) {
        WordSeats x = Town.of(1).dies(4).open();
        due.is("count(3)", 4, x.count(3));
        x.bill(2, 6);
        due.is("count(3)", 6, x.count(3));
    }

    @Says("4 DISTRICTS,")
    static void promise60_districts(Due due) {
        due.is("count(4)", 2, Due.chamber(Texts.LAWS).count(4));
    }

    @Says("5 WORDS,")
    static void promise60_words(Due due) {
        WordSeats x = Due.chamber(Texts.LAWS);
        due.is("count(5)", 8, x.count(5));
        x.term();
        x.term();
        due.is("the dead too: count(5)", 8, x.count(5));
    }

    @Says("6 SPEAKERS,")
    static void promise60_speakers(Due due) {
        due.is("count(6)", 7, Due.chamber(Texts.LAWS).count(6));
    }

    @Says("7 ROUNDS,")
    static void promise60_rounds(Due due) {
        due.is("count(7)", 4, tongue().count(7));
    }

    @Says("8 TERMS,")
    static void promise60_terms(Due due) {
        WordSeats x = tongue();
        due.is("count(8)", 0, x.count(8));
        x.term();
        x.term();
        due.is("count(8)", 2, x.count(8));
        x.undo();
        due.is("count(8)", 1, x.count(8));
    }

    @Says("9 LINES,")
    static void promise60_lines(Due due) {
        due.is("count(9)", 15, tongue().count(9));
        due.is("count(9)", 1, Town.bare().count(9));
    }

    @Says("10 bytes of the TAPE,")
    static void promise60_bytesOfTheTape(Due due) {
        WordSeats x = tongue();
        due.is("count(10)", 0, x.count(10));
        x.feed(0, 0, 0, 0, 0);
        due.is("count(10)", 20, x.count(10));
        x.end(12);
        due.is("count(10)", 12, x.count(10));
    }

    @Says("11 SLOTS that have a row.")
    static void promise60_slotsThatHaveARow(Due due) {
        WordSeats x = new WordSeats();
        x.row(2, 0, 0);
        due.is("a row without numbers: count(11)", 1, x.count(11));
        x.row(0, 3, 60);
        due.is("count(11)", 2, x.count(11));
        x.row(0, 1, 4);
        due.is("in place of another: count(11)", 2, x.count(11));
        x.row(1, 1, 4);
        x.row(3, 1, 4);
        due.is("count(11)", 4, x.count(11));
    }

    @Says("NONE for others.")
    static void promise60_others(Due due) {
        due.all("count(", -1, tongue()::count, -1, 12, 13, FAR, FAR_BELOW);
        due.all("no chamber: count(", -1, new WordSeats()::count, -1, 12, FAR, FAR_BELOW);
        due.row("no chamber: count(", new int[12], new WordSeats()::count);
    }

    // promises 61 and 62

    @Says("IMAGE k (0 .. 2) keeps the CHAMBER,")
    static void promise61_keepsTheChamber(Due due) {
        WordSeats x = tongue();
        due.is("image(0)", 0, x.image(0));
        x.stand(3, 0);
        x.need(2, 1);
        x.bill(0, 3);
        x.bill(1, 90);
        x.bill(2, 1);
        due.is("image(2)", 0, x.image(2));
        Due.tell(x, Texts.LAWS);
        x.chamber();
        due.is("image(1)", 0, x.image(1));
        x.back(0);
        due.row("as told: count(", Due.ints(5, 0, 0, 9, 2, 4, 4, 4, 0, 15), x::count);
        due.is("as told: word(3, 1)", 1, x.word(3, 1));
        due.is("as told: speaker(2, 3)", 22, x.speaker(2, 3));
        due.is("as told: by(9)", 234, x.by(9));
        x.back(2);
        due.row("as changed: count(", Due.ints(5, 3, 90, 1, 2, 4, 4, 4, 0, 15), x::count);
        due.is("as changed: word(3, 1)", 0, x.word(3, 1));
        due.is("as changed: speaker(2, 3)", 1, x.speaker(2, 3));
        x.back(1);
        due.row("the other: count(", Due.ints(6, 0, 0, 2, 2, 8, 7, 2, 0, 20), x::count);
        due.is("the other: elected()", 9, x.elected());
        due.is("the other: district(1, 0)", 4, x.district(1, 0));
    }

    @Says("TERMS too: 0.")
    static void promise61_keepsTermsToo(Due due) {
        WordSeats x = Due.chamber(Texts.SPOILT);
        x.bill(2, 9);
        for (int i = 0; i < 5; i++) {
            x.term();
        }
        x.image(1);
        Due.tell(x, Texts.LAWS);
        x.chamber();
        for (int i = 0; i < 7; i++) {
            x.term();
        }
        x.back(1);
        due.row("led(", Due.ints(1, 1, 1, 1, 1, -1, -1), x::led);
        for (int held = 5; held > 0; held--) {
            int terms = held;
            due.row("word(w, 4), w ", Due.ints(0, terms, terms, terms), w -> x.word(w, 4));
            due.row("word(w, 5), w ", Due.ints(0, 0, 0, 0), w -> x.word(w, 5));
            due.is("sitting()", 1, x.sitting());
            due.is("undo()", held - 1, x.undo());
        }
        due.is("sitting()", 0, x.sitting());
        due.is("the image stays: back(1)", 0, x.back(1));
        due.is("the image stays: count(8)", 5, x.count(8));
    }

    @Says("TERMS too: 0.")
    static void promise61_keepsTheDead(Due due) {
        WordSeats x = Due.chamber(Texts.SPOILT);
        x.image(0);
        for (int i = 0; i < 3; i++) {
            x.term();
        }
        x.image(1);
        x.back(0);
        due.row("word(w, 5), w ", Due.ints(0, 0, 0, 0), w -> x.word(w, 5));
        due.is("undo()", -5, x.undo());
        due.is("stand(0, 0)", 0, x.stand(0, 0));
        x.back(1);
        due.row("word(w, 5), w ", Due.ints(0, 1, 1, 1), w -> x.word(w, 5));
        due.is("stand(0, 0)", -5, x.stand(0, 0));
        due.is("undo()", 2, x.undo());
        due.row("word(w, 5), w ", Due.ints(0, 0, 0, 0), w -> x.word(w, 5));
    }

    /** Words 1 and 2 sit once; words 0 and 3 die by the second term, word 1 by the third, word 2 by the fourth. */
    @Says("TERMS too: 0.")
    static void promise61_keepsWhoDiedWhen(Due due) {
        WordSeats x = Town.of(4).dies(2).district(1).word(3, 0, 0, 0).word(3, 0, 0, 1).word(3, 0, 0, 2).word(3, 0, 0, 3)
            .speaker(0, 1, 0).open();
        int[] needs = {2, 4, 8, 1, 1};
        int[] dead = {0, 0, 9, 11, 15, 15};
        for (int i = 0; i < 5; i++) {
            x.need(0, needs[i]);
            x.term();
        }
        x.image(0);
        Due.tell(x, Texts.LAWS);
        x.chamber();
        x.term();
        x.back(0);
        for (int held = 5; held > 0; held--) {
            due.is("behind term " + held + ": who stands", 15 & ~dead[held], x.district(0, 1));
            x.undo();
        }
    }

    @Says("-2: no such k.")
    static void promise61_noSuchImage(Due due) {
        due.all("image(", -2, tongue()::image, -1, 3, FAR, FAR_BELOW);
        due.row("no chamber: image(", Due.ints(0, 0, 0, -2), new WordSeats()::image);
    }

    @Says("It is as IMAGE k has it: 0.")
    static void promise62_asTheImageHasIt(Due due) {
        WordSeats x = tongue();
        x.image(0);
        x.image(0);
        x.term();
        x.image(2);
        due.is("back(0)", 0, x.back(0));
        due.is("0: sitting()", 0, x.sitting());
        due.is("0: count(8)", 0, x.count(8));
        due.is("back(2)", 0, x.back(2));
        due.is("2: sitting()", 5, x.sitting());
        due.is("2: dumb()", 16, x.dumb());
        x.undo();
        x.need(0, 2);
        due.is("back(2)", 0, x.back(2));
        due.is("what is done since is not in it: sitting()", 5, x.sitting());
        due.is("what is done since is not in it: speaker(0, 3)", 1, x.speaker(0, 3));
        x.bill(1, 50);
        x.image(2);
        x.bill(1, 60);
        x.back(2);
        due.is("the latest of one k: count(2)", 50, x.count(2));
    }

    @Says("It is as IMAGE k has it: 0.")
    static void promise62_asNoChamber(Due due) {
        WordSeats x = new WordSeats();
        x.image(2);
        Due.tell(x, Texts.TONGUE);
        x.chamber();
        x.term();
        due.is("back(2)", 0, x.back(2));
        due.row("none: count(", new int[12], x::count);
        due.is("none: sitting()", -2, x.sitting());
        due.is("none: word(0, 0)", -2, x.word(0, 0));
    }

    /** The tape, its faults and the slots are no part of the CHAMBER. */
    @Says("It is as IMAGE k has it: 0.")
    static void promise62_theChamberAlone(Due due) {
        WordSeats x = tongue();
        x.image(0);
        Due.tell(x, "chamber;");
        x.chamber();
        Due.lay(x, 1, 0, 0, 0);
        due.is("back(0)", 0, x.back(0));
        due.is("fault(0)", 1, x.fault(0));
        due.is("fault(1)", 7, x.fault(1));
        due.is("count(10)", 8, x.count(10));
        due.is("count(11)", 1, x.count(11));
        due.is("fits(1)", 3, x.fits(1));
    }

    @Says("-2: no such k;")
    static void promise62_noSuchImage(Due due) {
        WordSeats x = tongue();
        x.image(0);
        due.all("back(", -2, x::back, -1, 3, FAR, FAR_BELOW);
    }

    @Says("-6: it has nothing.")
    static void promise62_itHasNothing(Due due) {
        WordSeats x = tongue();
        due.row("back(", Due.ints(-6, -6, -6, -2), x::back);
        x.term();
        x.image(1);
        due.row("back(", Due.ints(-6, 0, -6, -2), x::back);
        due.is("as it was: sitting()", 5, x.sitting());
        due.is("no chamber: back(0)", -6, new WordSeats().back(0));
    }

    // promises 63 and 64

    @Says("A SLOT (0 .. 3) has a row of n numbers of a WIDTH,")
    static void promise63_aRowOfNumbers(Due due) {
        WordSeats x = tongue();
        for (int slot = 0; slot < 4; slot++) {
            for (int n = 0; n <= 60; n += 20) {
                due.is("row(" + slot + ", " + slot + ", " + n + ")", 0, x.row(slot, slot, n));
                due.is("write(" + slot + ", n - 1, 0)", n == 0 ? -7 : 0, x.write(slot, n - 1, 0));
                due.is("write(" + slot + ", n, 0)", -7, x.write(slot, n, 0));
            }
        }
        due.is("count(11)", 4, x.count(11));
        due.is("of unlike widths: paste(0, 0, 1, 0, 1)", -8, x.paste(0, 0, 1, 0, 1));
    }

    @Says("all 0")
    static void promise63_all0(Due due) {
        WordSeats x = tongue();
        Due.lay(x, 0, 0, 1, 2, 1, 2);
        due.is("fits(0)", 3, x.fits(0));
        due.is("word 2 sat: sure(0, 0)", 4, x.sure(0, 0));
        for (int width = 0; width < 4; width++) {
            x.row(0, width, 60);
            due.is("0 by word 0: sure(0, 0)", 1, x.sure(0, 0));
            due.is("0 by word 0: fits(0)", 3, x.fits(0));
            for (int i = 0; i < 60; i++) {
                x.write(0, i, -1);
            }
            due.is("none of them: fits(0)", -2, x.fits(0));
        }
    }

    @Says("(in place of another one): 0.")
    static void promise63_inPlaceOfAnother(Due due) {
        WordSeats x = tongue();
        x.row(0, 3, 60);
        due.is("row(0, 0, 2)", 0, x.row(0, 0, 2));
        due.is("shorter: write(0, 2, 0)", -7, x.write(0, 2, 0));
        due.is("row(0, 1, 4)", 0, x.row(0, 1, 4));
        due.is("longer: write(0, 3, 0)", 0, x.write(0, 3, 0));
        due.is("wider: write(0, 1, 256)", 0, x.write(0, 1, 256));
        due.is("wider: fits(0)", -2, x.fits(0));
        due.is("row(0, 0, 0)", 0, x.row(0, 0, 0));
        due.is("without numbers: fits(0)", 9, x.fits(0));
        due.is("count(11)", 1, x.count(11));
    }

    @Says("-2: there is no such SLOT or WIDTH (0 .. 3),")
    static void promise63_noSuchSlotOrWidth(Due due) {
        WordSeats x = tongue();
        due.all("row(slot, 0, 1), slot ", -2, slot -> x.row(slot, 0, 1), -1, 4, FAR, FAR_BELOW);
        due.all("row(0, width, 1), width ", -2, width -> x.row(0, width, 1), -1, 4, 8, FAR, FAR_BELOW);
        due.is("ahead of -3: row(4, 0, -1)", -2, x.row(4, 0, -1));
        due.is("ahead of -3: row(0, 4, -1)", -2, x.row(0, 4, -1));
        due.is("nothing happens: count(11)", 0, x.count(11));
    }

    @Says("or n is above 60;")
    static void promise63_above60(Due due) {
        WordSeats x = tongue();
        due.all("row(0, 0, ", -2, n -> x.row(0, 0, n), 61, 62, FAR);
        due.is("nothing happens: count(11)", 0, x.count(11));
        Due.lay(x, 0, 0, 1, 2);
        due.is("row(0, 1, 61)", -2, x.row(0, 1, 61));
        due.is("the row is as it was: sure(0, 0)", 4, x.sure(0, 0));
        due.is("row(0, 0, 60)", 0, x.row(0, 0, 60));
    }

    @Says("-3, and the SLOT stays: n is below 0.")
    static void promise63_below0(Due due) {
        WordSeats x = tongue();
        due.all("row(0, 0, ", -3, n -> x.row(0, 0, n), -1, -2, FAR_BELOW);
        due.is("it has nothing as before: write(0, 0, 0)", -6, x.write(0, 0, 0));
        due.is("count(11)", 0, x.count(11));
        Due.lay(x, 0, 0, 1, 2);
        due.is("row(0, 1, -1)", -3, x.row(0, 1, -1));
        due.is("the slot stays: sure(0, 0)", 4, x.sure(0, 0));
        due.is("its width stays: write(0, 1, 258)", 0, x.write(0, 1, 258));
        due.is("its width stays: sure(0, 0)", 4, x.sure(0, 0));
    }

    @Says("Number i of the SLOT's row is v,")
    static void promise64_theNumberIsV(Due due) {
        WordSeats x = tongue();
        x.row(0, 0, 60);
        x.row(1, 0, 60);
        for (int i = 0; i < 60; i += 2) {
            due.is("write(0, " + i + ", 1)", 0, x.write(0, i, 1));
            due.is("write(0, " + (i + 1) + ", 2)", 0, x.write(0, i + 1, 2));
        }
        due.is("1 by word 2 throughout: sure(0, 0)", 4, x.sure(0, 0));
        due.is("the other slot as it was: sure(1, 0)", 1, x.sure(1, 0));
        x.write(0, 59, 1);
        due.is("the last by word 1: sure(0, 0)", 6, x.sure(0, 0));
    }

    /** Of each width, a number is seen as what its last bytes are. */
    @Says("cut to its WIDTH: 0.")
    static void promise64_cutToItsWidth(Due due) {
        WordSeats x = tongue();
        long[] cut = {1L << 8, 1L << 16, 1L << 32};
        for (int width = 0; width < 4; width++) {
            for (int i = 0; i < 3; i++) {
                x.row(0, width, 2);
                x.write(0, 1, cut[i]);
                due.is("width " + width + ": " + cut[i], i >= width ? 3 : -2, x.fits(0));
                x.write(0, 1, -cut[i]);
                due.is("width " + width + ": " + -cut[i], i >= width ? 3 : -2, x.fits(0));
                x.write(0, 1, cut[i] + 9);
                due.is("width " + width + ": " + cut[i] + " and 9", i >= width ? 0 : -2, x.fits(0));
            }
            x.write(0, 1, 255);
            due.is("width " + width + ": 255", -2, x.fits(0));
            due.is("write(0, 1, MIN)", 0, x.write(0, 1, Long.MIN_VALUE));
            due.is("width " + width + ": MIN", width < 3 ? 3 : -2, x.fits(0));
        }
    }

    @Says("-2: there is no such SLOT;")
    static void promise64_noSuchSlot(Due due) {
        due.all("write(slot, 0, 0), slot ", -2, slot -> tongue().write(slot, 0, 0), -1, 4, FAR, FAR_BELOW);
        due.is("ahead of -7: write(4, -1, 0)", -2, tongue().write(4, -1, 0));
    }

    @Says("-6: it has nothing;")
    static void promise64_itHasNothing(Due due) {
        WordSeats x = tongue();
        x.row(1, 0, 2);
        due.row("write(slot, 0, 0), slot ", Due.ints(-6, 0, -6, -6), slot -> x.write(slot, 0, 0));
        due.is("ahead of -7: write(0, -1, 0)", -6, x.write(0, -1, 0));
    }

    @Says("-7: there is no such number.")
    static void promise64_noSuchNumber(Due due) {
        WordSeats x = tongue();
        Due.lay(x, 0, 0, 1, 2);
        due.all("write(0, i, 1), i ", -7, i -> x.write(0, i, 1), -1, 2, 59, 60, FAR, FAR_BELOW);
        due.is("nothing happens: sure(0, 0)", 4, x.sure(0, 0));
        x.row(1, 0, 0);
        due.is("none at all: write(1, 0, 0)", -7, x.write(1, 0, 0));
    }

    // promise 65

    @Says("So many numbers of a SLOT's row, from one on, are put to another one's")
    static void promise65_putToAnother(Due due) {
        WordSeats x = tongue();
        Due.lay(x, 0, 1, 0, 0, 1, 2, 3, 9);
        x.row(1, 1, 4);
        due.is("paste(0, 2, 1, 0, 2)", 0, x.paste(0, 2, 1, 0, 2));
        due.is("1 2 0 0: sure(1, 0)", 5, x.sure(1, 0));
        due.is("paste(0, 2, 1, 2, 2)", 0, x.paste(0, 2, 1, 2, 2));
        due.is("1 2 1 2: sure(1, 0)", 4, x.sure(1, 0));
        due.is("the source stays: fits(0)", 1, x.fits(0));
        due.is("all of a row: paste(1, 0, 0, 2, 4)", 0, x.paste(1, 0, 0, 2, 4));
        due.is("0 0 1 2 1 2: sure(0, 0)", 5, x.sure(0, 0));
        due.is("none: paste(0, 6, 1, 4, 0)", 0, x.paste(0, 6, 1, 4, 0));
        due.is("none: sure(1, 0)", 4, x.sure(1, 0));
    }

    @Says({"(or its own),", "from one on, as they were: 0."})
    static void promise65_putToItsOwnAsTheyWere(Due due) {
        WordSeats x = tongue();
        Due.lay(x, 0, 1, 0, 0, 1, 2, 3, 9);
        due.is("forth: paste(0, 0, 0, 2, 4)", 0, x.paste(0, 0, 0, 2, 4));
        due.is("0 0 0 0 1 2: sure(0, 0)", 5, x.sure(0, 0));
        Due.lay(x, 0, 1, 2, 1, 2, 0, 0, 3);
        due.is("back: paste(0, 1, 0, 0, 5)", 0, x.paste(0, 1, 0, 0, 5));
        // 1 2 0 0 3 3: word 3 does not mean 3.
        due.is("fits(0)", 0, x.fits(0));
        x.write(0, 4, 1);
        x.write(0, 5, 2);
        due.is("1 2 0 0 1 2: sure(0, 0)", 5, x.sure(0, 0));
        due.is("upon itself: paste(0, 0, 0, 0, 6)", 0, x.paste(0, 0, 0, 0, 6));
        due.is("1 2 0 0 1 2: sure(0, 0)", 5, x.sure(0, 0));
    }

    @Says("as they were: 0.")
    static void promise65_asTheyWereOfEveryWidth(Due due) {
        for (int width = 0; width < 4; width++) {
            WordSeats x = tongue();
            Due.lay(x, 0, width, 4, 9, 1, 2);
            x.row(3, width, 2);
            due.is("paste(0, 2, 3, 0, 2)", 0, x.paste(0, 2, 3, 0, 2));
            due.is("width " + width + ": sure(3, 0)", 4, x.sure(3, 0));
            x.write(0, 2, 1L << (8 << width) - 1);
            x.paste(0, 2, 3, 0, 2);
            due.is("width " + width + ", the highest bit: sure(3, 0)", -2, x.sure(3, 0));
        }
    }

    @Says("-2: there is no such SLOT;")
    static void promise65_noSuchSlot(Due due) {
        WordSeats x = tongue();
        x.row(0, 0, 2);
        due.all("paste(slot, 0, 0, 0, 0), slot ", -2, slot -> x.paste(slot, 0, 0, 0, 0), -1, 4, FAR, FAR_BELOW);
        due.all("paste(0, 0, to, 0, 0), to ", -2, to -> x.paste(0, 0, to, 0, 0), -1, 4, FAR, FAR_BELOW);
        due.is("ahead of -6: paste(1, 0, 4, 0, 0)", -2, x.paste(1, 0, 4, 0, 0));
    }

    @Says("-6: one has nothing;")
    static void promise65_oneHasNothing(Due due) {
        WordSeats x = tongue();
        due.is("both: paste(0, 0, 1, 0, 0)", -6, x.paste(0, 0, 1, 0, 0));
        x.row(0, 1, 6);
        due.is("there: paste(0, 0, 1, 0, 0)", -6, x.paste(0, 0, 1, 0, 0));
        due.is("here: paste(1, 0, 0, 0, 0)", -6, x.paste(1, 0, 0, 0, 0));
        due.is("ahead of -7: paste(1, -1, 0, 9, 9)", -6, x.paste(1, -1, 0, 9, 9));
    }

    @Says("-8: they are not of one WIDTH;")
    static void promise65_notOfOneWidth(Due due) {
        WordSeats x = tongue();
        for (int slot = 0; slot < 4; slot++) {
            x.row(slot, slot, 4);
        }
        for (int slot = 0; slot < 4; slot++) {
            for (int to = 0; to < 4; to++) {
                due.is("paste(" + slot + ", 0, " + to + ", 0, 1)", slot == to ? 0 : -8, x.paste(slot, 0, to, 0, 1));
            }
        }
        due.is("none either: paste(0, 0, 1, 0, 0)", -8, x.paste(0, 0, 1, 0, 0));
        due.is("ahead of -7: paste(0, 9, 1, 9, 9)", -8, x.paste(0, 9, 1, 9, 9));
    }

    /** A row of 6 and one of 4. */
    private static WordSeats twoRows() {
        WordSeats x = tongue();
        Due.lay(x, 0, 1, 1, 2, 1, 2, 1, 2);
        x.row(1, 1, 4);
        return x;
    }

    private static void beyond(Due due, int[]... pastes) {
        WordSeats x = twoRows();
        for (int[] p : pastes) {
            due.is("paste(0, " + p[0] + ", 1, " + p[1] + ", " + p[2] + ")", -7, x.paste(0, p[0], 1, p[1], p[2]));
        }
        due.is("nothing happens: sure(1, 0)", 1, x.sure(1, 0));
        due.is("nothing happens: sure(0, 0)", 4, x.sure(0, 0));
    }

    @Says("-7, and nothing happens: some are beyond their rows,")
    static void promise65_someAreBeyond(Due due) {
        beyond(due, Due.ints(0, 0, 5), Due.ints(0, 1, 4), Due.ints(3, 0, 4), Due.ints(5, 0, 2), Due.ints(6, 0, 1), Due.ints(0, 4, 1),
            Due.ints(7, 0, 0), Due.ints(0, 5, 0));
        // Their sums would wrap around.
        beyond(due, Due.ints(FAR, 0, 1), Due.ints(0, FAR, 1), Due.ints(0, 0, FAR), Due.ints(FAR, FAR, FAR), Due.ints(1, 1, FAR),
            Due.ints(FAR, 0, FAR), Due.ints(0, FAR, FAR));
    }

    @Says("or a place or n is below 0.")
    static void promise65_below0(Due due) {
        beyond(due, Due.ints(-1, 0, 1), Due.ints(0, -1, 1), Due.ints(0, 0, -1), Due.ints(-1, -1, -1), Due.ints(-1, 0, 0),
            Due.ints(0, -1, 0), Due.ints(2, 2, -2));
        beyond(due, Due.ints(FAR_BELOW, 0, FAR), Due.ints(0, FAR_BELOW, FAR), Due.ints(0, 0, FAR_BELOW));
    }
}
