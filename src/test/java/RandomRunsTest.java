import java.util.Random;

/** Random runs, each call answered by the program and by the Model (promises 1 to 65). */
final class RandomRunsTest {
    private static final int RUNS = 600;
    private static final int CALLS = 480;

    private final Due due = new Due("RandomRunsTest");
    private final Random random;
    private final int run;
    private WordSeats x = new WordSeats();
    private Model m = new Model();
    private int calls;

    private RandomRunsTest(int run) {
        this.run = run;
        random = new Random(run);
    }

    public static void main(String[] args) {
        int runs = args.length > 0 ? Integer.parseInt(args[0]) : RUNS;
        int from = args.length > 1 ? Integer.parseInt(args[1]) : 0;
        int wrong = 0;
        for (int run = from; run < from + runs && wrong == 0; run++) {
            RandomRunsTest test = new RandomRunsTest(run);
            test.go();
            wrong += test.due.wrong();
        }
        System.out.println(wrong == 0 ? runs + " random runs are as due" : wrong + " answers are not as due");
        if (wrong != 0) {
            System.exit(1);
        }
    }

    private void is(String call, long want, long got) {
        calls++;
        due.is("run " + run + ", call " + calls + ": " + call, want, got);
    }

    /** Mostly of a range, now and then just beyond it or far away. */
    private int of(int low, int high) {
        int luck = random.nextInt(60);
        if (luck == 0) return low - 1;
        if (luck == 1) return high + 1;
        if (luck == 2) return random.nextInt(5) == 0 ? Integer.MIN_VALUE : random.nextInt();
        if (luck == 3) return random.nextInt(5) == 0 ? Integer.MAX_VALUE : high + 2 + random.nextInt(3);
        return high < low ? low : low + random.nextInt(high - low + 1);
    }

    private int within(int low, int high) {
        return low + random.nextInt(high - low + 1);
    }

    private void go() {
        load();
        while (calls < CALLS && due.wrong() == 0) {
            if (random.nextInt(150) == 0) load();
            else if (random.nextInt(6) == 0) change();
            else ask();
        }
    }

    private void load() {
        if (random.nextInt(4) == 0) {
            int n = of(0, m.tape.length());
            is("end(" + n + ")", m.end(n), x.end(n));
        }
        int old = random.nextInt(10) == 0 ? m.tape.length() : 0;
        if (old == 0) is("end(0)", m.end(0), x.end(0));
        String text = text();
        if (random.nextInt(8) == 0) text = spoil(text);
        for (int at = 0; at < text.length(); at += 20) {
            int[] v = new int[5];
            for (int i = 0; i < 20; i++) {
                int b = at + i < text.length() ? text.charAt(at + i) : random.nextInt(256);
                v[i / 4] = v[i / 4] << 8 | b;
            }
            is("feed", m.feed(v[0], v[1], v[2], v[3], v[4]), x.feed(v[0], v[1], v[2], v[3], v[4]));
        }
        is("end", m.end(old + text.length()), x.end(old + text.length()));
        is("chamber()", m.chamber(), x.chamber());
        is("fault(0)", m.fault(0), x.fault(0));
        is("fault(1)", m.fault(1), x.fault(1));
        is("count(10)", m.count(10), x.count(10));
    }

    private String spoil(String text) {
        StringBuilder out = new StringBuilder(text);
        int n = 1 + random.nextInt(2);
        for (int i = 0; i < n && out.length() > 0; i++) {
            int at = random.nextInt(out.length());
            switch (random.nextInt(6)) {
                case 0 -> out.setCharAt(at, (char) random.nextInt(256));
                case 1 -> out.deleteCharAt(at);
                case 2 -> out.insert(at, " ;9a0\n#".charAt(random.nextInt(7)));
                case 3 -> out.setLength(at);
                case 4 -> out.delete(at, Math.min(out.length(), at + random.nextInt(20)));
                default -> {
                    String[] words = {" chamber ", " word ", " 0 ", " 99 ", " district seats 3;", "round 0 by 1 and 0;",
                        " 12345678901234567890 "};
                    out.insert(at, words[random.nextInt(words.length)]);
                }
            }
        }
        return out.toString();
    }

    private String meanings(int meanings, int most) {
        StringBuilder out = new StringBuilder();
        int n = 1 + random.nextInt(most);
        for (int i = 0; i < n; i++) out.append(' ').append(random.nextInt(meanings));
        return out.toString();
    }

    private String text() {
        int meanings = within(2, 8), districts = within(0, 4), words = districts == 0 ? 0 : within(0, 9);
        int speakers = districts == 0 ? 0 : within(0, random.nextBoolean() ? 6 : 9), rounds = within(0, 8), dies = within(1, 4);
        // Many in one place: else few are struck, few spoil, and hardly a SPEAKER GAINS.
        if (random.nextBoolean()) {
            meanings = within(4, 8);
            districts = within(1, 2);
            words = within(5, 9);
            speakers = within(5, 9);
            dies = within(1, 9);
        }
        if (random.nextInt(15) == 0) words = Math.min(districts, 1) * 10;
        if (random.nextInt(15) == 0) districts = 5;
        int letters = random.nextBoolean() ? 12 : 3, votes = random.nextBoolean() ? 99 : 3;
        StringBuilder out = new StringBuilder("chamber meanings " + meanings + " law " + Model.LAWS[random.nextInt(4)]
            + " bar " + (random.nextBoolean() ? 0 : within(0, 60)) + " dies " + dies + ";");
        for (int i = 0; i < districts; i++) out.append("district seats ").append(within(1, 9)).append(";\n");
        int most = within(1, 4);
        for (int i = 0; i < words; i++) {
            out.append("word letters ").append(within(1, letters)).append(" in ").append(random.nextInt(districts))
                .append(" party ").append(random.nextInt(4)).append(" means").append(meanings(meanings, most)).append(';');
        }
        for (int i = 0; i < speakers; i++) {
            out.append("speaker in ").append(random.nextInt(districts)).append(" votes ").append(within(1, votes))
                .append(" comes ").append(random.nextBoolean() ? within(0, 100) : 50 * within(1, 2))
                .append(" needs").append(meanings(meanings, 4)).append(';');
        }
        for (int i = 0; i < rounds; i++) {
            int goal = random.nextInt(meanings), a = random.nextInt(meanings), b = random.nextInt(meanings);
            if (a == goal || b == goal) continue;
            out.append("round ").append(goal).append(" by ").append(a).append(" and ").append(b).append(';');
        }
        return random.nextInt(30) == 0 ? "" : out.toString();
    }

    private void change() {
        int k;
        switch (random.nextInt(12)) {
            case 0, 1, 2 -> terms(random.nextInt(40) == 0 ? 61 : 1);
            case 3 -> is("undo()", m.undo(), x.undo());
            case 4 -> {
                int w = of(0, m.now.words.size() - 1), d = of(0, m.now.seats.size() - 1);
                is("stand(" + w + ", " + d + ")", m.stand(w, d), x.stand(w, d));
            }
            case 5 -> {
                int s = of(0, m.now.speakers.size() - 1), set = of(0, (1 << m.now.meanings) - 1);
                is("need(" + s + ", " + set + ")", m.need(s, set), x.need(s, set));
            }
            case 6 -> {
                int what = of(0, 2), n = what == 1 ? of(0, 100) : of(0, 4);
                is("bill(" + what + ", " + n + ")", m.bill(what, n), x.bill(what, n));
            }
            case 7 -> {
                k = of(0, 2);
                is("image(" + k + ")", m.image(k), x.image(k));
            }
            case 8 -> {
                k = of(0, 2);
                is("back(" + k + ")", m.back(k), x.back(k));
            }
            case 9 -> {
                int slot = of(0, 3), width = of(0, 3), n = random.nextInt(5) == 0 ? of(0, 60) : 2 * of(0, 3);
                is("row(" + slot + ", " + width + ", " + n + ")", m.row(slot, width, n), x.row(slot, width, n));
                for (int i = 0; i < n && i < 60; i += 2) {
                    write(slot, i, of(0, m.now.meanings - 1));
                    write(slot, i + 1, random.nextInt(3) == 0 ? 9 : of(0, m.now.words.size() - 1));
                }
            }
            case 10 -> write(of(0, 3), of(0, 6), random.nextInt(4) == 0 ? random.nextLong() : of(0, 9) + (1L << 8 * of(1, 7)));
            default -> {
                int slot = of(0, 3), i = of(0, 3), to = of(0, 3), at = of(0, 3), n = of(0, 4);
                is("paste(" + slot + ", " + i + ", " + to + ", " + at + ", " + n + ")",
                    m.paste(slot, i, to, at, n), x.paste(slot, i, to, at, n));
            }
        }
    }

    private void terms(int n) {
        for (int i = 0; i < n && calls < CALLS; i++) is("term()", m.term(), x.term());
    }

    private void write(int slot, int i, long v) {
        is("write(" + slot + ", " + i + ", " + v + ")", m.write(slot, i, v), x.write(slot, i, v));
    }

    private void ask() {
        int w = of(0, m.now.words.size() - 1), w2 = of(0, m.now.words.size() - 1), s = of(0, m.now.speakers.size() - 1);
        int d = of(0, m.now.seats.size() - 1), law = of(0, 3), law2 = of(0, 3), mean = of(0, m.now.meanings - 1);
        int p = of(0, 3), set = of(0, 15), slot = of(0, 3), i = of(0, 5);
        int seed = random.nextInt(9) == 0 ? of(1999999990, 2000000000) : of(0, 50);
        int c;
        switch (random.nextInt(50)) {
            case 0 -> is("word(" + w + ", " + i + ")", m.word(w, i), x.word(w, i));
            case 1 -> is("speaker(" + s + ", " + i + ")", m.speaker(s, i), x.speaker(s, i));
            case 2 -> is("district(" + d + ", " + i + ")", m.district(d, i), x.district(d, i));
            case 3 -> is("likes(" + s + ", " + w + ")", m.likes(s, w), x.likes(s, w));
            case 4 -> is("order(" + s + ", " + i + ")", m.order(s, i), x.order(s, i));
            case 5 -> is("votes(" + w + ")", m.votes(w), x.votes(w));
            case 6 -> is("abstains(" + d + ")", m.abstains(d), x.abstains(d));
            case 7 -> is("wins(" + d + ", " + law + ")", m.wins(d, law), x.wins(d, law));
            case 8 -> is("sits(" + d + ", " + law + ")", m.sits(d, law), x.sits(d, law));
            case 9 -> is("with(" + d + ", " + law + ")", m.with(d, law), x.with(d, law));
            case 10 -> {
                for (c = 0; c < 9; c++) is("struck(" + d + ", " + c + ")", m.struck(d, c), x.struck(d, c));
            }
            case 11 -> is("beats(" + w + ", " + w2 + ")", m.beats(w, w2), x.beats(w, w2));
            case 12 -> is("best(" + d + ")", m.best(d), x.best(d));
            case 13 -> is("unlike(" + law + ", " + law2 + ")", m.unlike(law, law2), x.unlike(law, law2));
            case 14 -> is("synonyms(" + w + ")", m.synonyms(w), x.synonyms(w));
            case 15 -> is("spoils(" + w + ")", m.spoils(w), x.spoils(w));
            case 16 -> is("spoilers()", m.spoilers(), x.spoilers());
            case 17 -> is("elected()", m.elected(), x.elected());
            case 18 -> is("sitting()", m.sitting(), x.sitting());
            case 19 -> is("led(" + i + ")", m.led(i), x.led(i));
            case 20 -> is("dies()", m.dies(), x.dies());
            case 21 -> is("said(" + mean + ")", m.said(mean), x.said(mean));
            case 22 -> is("least(" + mean + ")", m.least(mean), x.least(mean));
            case 23 -> is("round(" + mean + ")", m.round(mean), x.round(mean));
            case 24 -> is("dumb()", m.dumb(), x.dumb());
            case 25 -> is("cost(" + s + ")", m.cost(s), x.cost(s));
            case 26 -> is("costs()", m.costs(), x.costs());
            case 27 -> {
                c = of(0, (1 << m.now.words.size()) - 1);
                is("by(" + c + ")", m.by(c), x.by(c));
            }
            case 28 -> is("cheapest(" + d + ")", m.cheapest(d), x.cheapest(d));
            case 29, 30 -> {
                c = of(0, (1 << m.now.meanings) - 1);
                is("cover(" + c + ")", m.cover(c), x.cover(c));
                is("covers(" + c + ")", m.covers(c), x.covers(c));
            }
            case 31 -> is("house()", m.house(), x.house());
            case 32 -> is("housed()", m.housed(), x.housed());
            case 33 -> is("feint(" + s + ")", m.feint(s), x.feint(s));
            case 34 -> is("gains(" + s + ")", m.gains(s), x.gains(s));
            case 35 -> {
                is("restless()", m.restless(), x.restless());
                for (c = 0; c < 9; c++) {
                    is("feint(" + c + ")", m.feint(c), x.feint(c));
                    is("gains(" + c + ")", m.gains(c), x.gains(c));
                }
            }
            case 36 -> is("seats(" + p + ")", m.seats(p), x.seats(p));
            case 37 -> is("majority(" + set + ")", m.majority(set), x.majority(set));
            case 38 -> {
                c = of(0, 1);
                is("share(" + p + ", " + c + ")", m.share(p, c), x.share(p, c));
            }
            case 39 -> is("coalition()", m.coalition(), x.coalition());
            case 40 -> is("breaks(" + set + ")", m.breaks(set), x.breaks(set));
            case 41 -> {
                c = of(0, 20);
                is("lists(" + c + ", " + p + ")", m.lists(c, p), x.lists(c, p));
            }
            case 42 -> {
                if (random.nextInt(4) == 0) is("rigged(" + p + ")", m.rigged(p), x.rigged(p));
                else if (random.nextInt(3) == 0) is("put(" + p + ", " + s + ")", m.put(p, s), x.put(p, s));
            }
            case 43 -> is("speech(" + slot + ")", m.speech(slot), x.speech(slot));
            case 44 -> is("fits(" + slot + ")", m.fits(slot), x.fits(slot));
            case 45 -> {
                c = of(0, 1);
                is("sure(" + slot + ", " + c + ")", m.sure(slot, c), x.sure(slot, c));
            }
            case 46 -> is("drawn(" + seed + ", " + d + ")", m.drawn(seed, d), x.drawn(seed, d));
            case 47 -> {
                c = of(1, 20);
                is("years(" + seed + ", " + c + ", " + w + ")", m.years(seed, c, w), x.years(seed, c, w));
            }
            case 48 -> {
                c = of(0, 11);
                is("count(" + c + ")", m.count(c), x.count(c));
            }
            default -> is("fault(" + i + ")", m.fault(i), x.fault(i));
        }
    }
}
