import java.math.BigInteger;
import java.util.ArrayDeque;
import java.util.ArrayList;
import java.util.Arrays;
import java.util.Comparator;
import java.util.Deque;
import java.util.List;
import java.util.regex.Matcher;
import java.util.regex.Pattern;

/** The document told a second time, slowly and with the library, to hold the program against. */
final class Model {
    static final int NONE = -1;
    static final String[] LAWS = {"first", "runoff", "strike", "approve"};

    static final class Word implements Cloneable {
        int number, letters, home, party, means, idle;
        boolean dead;

        Word copy() {
            try {
                return (Word) clone();
            } catch (CloneNotSupportedException e) {
                throw new IllegalStateException(e);
            }
        }
    }

    static final class Speaker implements Cloneable {
        int number, home, votes, comes, needs;

        Speaker copy() {
            try {
                return (Speaker) clone();
            } catch (CloneNotSupportedException e) {
                throw new IllegalStateException(e);
            }
        }
    }

    record Found(int sitting, int[] idle, boolean[] dead) { }

    static final class State {
        int lines, meanings, law, bar, dies, sitting;
        List<Integer> seats = new ArrayList<>();
        List<Word> words = new ArrayList<>();
        List<Speaker> speakers = new ArrayList<>();
        List<int[]> rounds = new ArrayList<>();
        Deque<Found> found = new ArrayDeque<>();
        List<Integer> led = new ArrayList<>();

        State copy() {
            State s = new State();
            s.lines = lines;
            s.meanings = meanings;
            s.law = law;
            s.bar = bar;
            s.dies = dies;
            s.sitting = sitting;
            s.seats.addAll(seats);
            for (Word w : words) s.words.add(w.copy());
            for (Speaker p : speakers) s.speakers.add(p.copy());
            s.rounds.addAll(rounds);
            s.found.addAll(found);
            s.led.addAll(led);
            return s;
        }
    }

    record Outcome(int winner, int votes, List<Integer> struck) { }

    StringBuilder tape = new StringBuilder();
    State now = new State();
    State[] images = new State[3];
    int fault = 0, place = NONE;
    BigInteger[][] rows = new BigInteger[4][];
    int[] widths = new int[4];

    // the text

    int feed(int a, int b, int c, int d, int e) {
        if (tape.length() > 1580) return NONE;
        for (int n : new int[] {a, b, c, d, e}) {
            for (byte x : java.nio.ByteBuffer.allocate(4).putInt(n).array()) tape.append((char) (x & 0xff));
        }
        return tape.length();
    }

    int end(int n) {
        if (n < 0 || n > tape.length()) return NONE;
        tape.setLength(n);
        return n;
    }

    record Token(String text, int place) { }

    @SuppressWarnings("serial")
    static final class Fault extends Exception {
        final int what, place;

        Fault(int what, int place) {
            this.what = what;
            this.place = place;
        }
    }

    private static final Pattern TOKEN = Pattern.compile("[ \\n]+|[a-z]+|[0-9]+|[^ \\na-z0-9]", Pattern.DOTALL);

    int chamber() {
        List<Token> tokens = new ArrayList<>();
        Matcher m = TOKEN.matcher(tape);
        while (m.find()) {
            if (" \n".indexOf(m.group().charAt(0)) < 0) tokens.add(new Token(m.group(), m.start()));
        }
        tokens.add(new Token("", tape.length()));
        try {
            State s = parse(tokens);
            now = s;
            fault = 0;
            place = NONE;
            tape.setLength(0);
            return s.lines;
        } catch (Fault f) {
            fault = f.what;
            place = f.place;
            return -4;
        }
    }

    private static final String[] FORMS = {
        "chamber meanings 1..8 law LAW bar 0..100 dies 1..9 ;",
        "district seats 1..9 ;",
        "word letters 1..12 in D party 0..3 means M+ ;",
        "speaker in D votes 1..99 comes 0..100 needs M+ ;",
        "round M by X and X ;",
    };

    private State parse(List<Token> tokens) throws Fault {
        State s = new State();
        int at = 0;
        while (!tokens.get(at).text.isEmpty()) {
            Token head = tokens.get(at);
            String form = null;
            for (String f : FORMS) {
                if (f.split(" ")[0].equals(head.text)) form = f;
            }
            if (form == null || form.startsWith("chamber") != (s.lines == 0)) throw new Fault(1, head.place);
            List<Integer> got = new ArrayList<>();
            if (form.startsWith("district") && s.seats.size() == 4
                || form.startsWith("word") && s.words.size() == 9
                || form.startsWith("speaker") && s.speakers.size() == 9
                || form.startsWith("round") && s.rounds.size() == 8) throw new Fault(3, head.place);
            for (String part : form.split(" ")) {
                boolean many = part.equals("M+");
                do {
                    Token t = tokens.get(at);
                    if (part.equals("LAW")) {
                        int law = Arrays.asList(LAWS).indexOf(t.text);
                        if (law < 0) throw new Fault(1, t.place);
                        got.add(law);
                    } else if (part.matches("[a-z]+|;")) {
                        if (!t.text.equals(part)) throw new Fault(1, t.place);
                    } else {
                        if (!t.text.matches("[0-9]+")) throw new Fault(1, t.place);
                        BigInteger n = new BigInteger(t.text);
                        int low = 0, high = s.meanings - 1;
                        if (part.equals("D")) high = s.seats.size() - 1;
                        if (part.contains("..")) {
                            low = Integer.parseInt(part.substring(0, part.indexOf('.')));
                            high = Integer.parseInt(part.substring(part.lastIndexOf('.') + 1));
                        }
                        if (n.compareTo(BigInteger.valueOf(low)) < 0 || n.compareTo(BigInteger.valueOf(high)) > 0) {
                            throw new Fault(2, t.place);
                        }
                        if (part.equals("X") && n.intValue() == got.get(0)) throw new Fault(2, t.place);
                        got.add(n.intValue());
                    }
                    at++;
                } while (many && tokens.get(at).text.matches("[0-9]+"));
            }
            take(s, form.charAt(0), got);
            s.lines++;
        }
        return s;
    }

    private void take(State s, char kind, List<Integer> got) {
        switch (kind) {
            case 'c' -> {
                s.meanings = got.get(0);
                s.law = got.get(1);
                s.bar = got.get(2);
                s.dies = got.get(3);
            }
            case 'd' -> s.seats.add(got.get(0));
            case 'w' -> {
                Word w = new Word();
                w.number = s.words.size();
                w.letters = got.get(0);
                w.home = got.get(1);
                w.party = got.get(2);
                for (int m : got.subList(3, got.size())) w.means |= 1 << m;
                s.words.add(w);
            }
            case 's' -> {
                Speaker p = new Speaker();
                p.number = s.speakers.size();
                p.home = got.get(0);
                p.votes = got.get(1);
                p.comes = got.get(2);
                for (int m : got.subList(3, got.size())) p.needs |= 1 << m;
                s.speakers.add(p);
            }
            default -> s.rounds.add(new int[] {got.get(0), got.get(1), got.get(2)});
        }
    }

    int fault(int what) {
        return what == 0 ? fault : what == 1 ? place : NONE;
    }

    // who there is

    private boolean no() {
        return now.lines == 0;
    }

    private boolean w(int word) {
        return word >= 0 && word < now.words.size();
    }

    private boolean s(int speaker) {
        return speaker >= 0 && speaker < now.speakers.size();
    }

    private boolean d(int district) {
        return district >= 0 && district < now.seats.size();
    }

    private boolean m(int meaning) {
        return meaning >= 0 && meaning < now.meanings;
    }

    private static boolean in(int x, int low, int high) {
        return low <= x && x <= high;
    }

    int word(int word, int what) {
        if (!w(word) || !in(what, 0, 5)) return -2;
        Word x = now.words.get(word);
        return new int[] {x.letters, x.home, x.party, x.means, x.idle, x.dead ? 1 : 0}[what];
    }

    int speaker(int speaker, int what) {
        if (!s(speaker) || !in(what, 0, 3)) return -2;
        Speaker x = now.speakers.get(speaker);
        return new int[] {x.home, x.votes, x.comes, x.needs}[what];
    }

    int district(int district, int what) {
        if (!d(district) || !in(what, 0, 2)) return -2;
        if (what == 0) return now.seats.get(district);
        if (what == 1) return bits(standing(district));
        return now.speakers.stream().filter(p -> p.home == district).mapToInt(p -> p.votes).sum();
    }

    static int bits(List<Word> words) {
        int set = 0;
        for (Word w : words) set |= 1 << w.number;
        return set;
    }

    List<Word> standing(int district) {
        return now.words.stream().filter(w -> w.home == district && !w.dead).toList();
    }

    List<Speaker> living(int district) {
        return now.speakers.stream().filter(p -> p.home == district).toList();
    }

    static int like(Speaker p, Word w) {
        int n = 0;
        for (int m = 0; m < 8; m++) if ((p.needs >> m & 1) == 1 && (w.means >> m & 1) == 1) n++;
        return n;
    }

    int likes(int speaker, int word) {
        if (!s(speaker) || !w(word)) return -2;
        return like(now.speakers.get(speaker), now.words.get(word));
    }

    // elections

    static final Comparator<Word> TALL = Comparator.comparingInt((Word w) -> -w.letters).thenComparingInt(w -> w.number);

    /** A feint: who feigns to have which WORD ahead of all. */
    record Feint(Speaker who, Word whom) { }

    static List<Word> ranking(Speaker p, List<Word> words, Feint feint) {
        List<Word> order = new ArrayList<>();
        for (Word w : words) if (like(p, w) > 0) order.add(w);
        order.sort(Comparator.comparingInt((Word w) -> -like(p, w)).thenComparing(TALL));
        if (feint != null && feint.who.number == p.number) {
            order.remove(feint.whom);
            order.add(0, feint.whom);
        }
        return order;
    }

    static int[] firsts(List<Word> among, List<Word> all, List<Speaker> voters, Feint feint) {
        int[] votes = new int[10];
        for (Speaker p : voters) {
            for (Word w : ranking(p, all, feint)) {
                if (among.contains(w)) {
                    votes[w.number] += p.votes;
                    votes[9] += p.votes;
                    break;
                }
            }
        }
        return votes;
    }

    static Outcome hold(int law, List<Word> words, List<Speaker> voters, Feint feint) {
        List<Integer> struck = new ArrayList<>();
        List<Word> left = new ArrayList<>(words);
        int[] votes = firsts(words, words, voters, feint);
        if (law == 1 && left.size() > 2) {
            int[] v = votes;
            left.sort(Comparator.comparingInt((Word w) -> -v[w.number]).thenComparing(TALL));
            left = left.subList(0, 2);
            votes = firsts(left, words, voters, feint);
        } else if (law == 2) {
            while (left.size() > 1) {
                int[] v = votes;
                if (left.stream().anyMatch(w -> 2 * v[w.number] > v[9])) break;
                left.sort(Comparator.comparingInt((Word w) -> v[w.number])
                    .thenComparingInt(w -> w.letters).thenComparingInt(w -> -w.number));
                struck.add(left.remove(0).number);
                votes = firsts(left, words, voters, feint);
            }
        } else if (law == 3) {
            votes = new int[10];
            for (Speaker p : voters) for (Word w : ranking(p, words, feint)) votes[w.number] += p.votes;
        }
        int[] v = votes;
        Word it = left.stream().min(Comparator.comparingInt((Word w) -> -v[w.number]).thenComparing(TALL)).orElse(null);
        if (it == null || v[it.number] == 0) return new Outcome(NONE, NONE, struck);
        return new Outcome(it.number, v[it.number], struck);
    }

    int seat(int law, List<Word> words, List<Speaker> voters, List<Speaker> all, Feint feint) {
        Outcome o = hold(law, words, voters, feint);
        int roll = all.stream().mapToInt(p -> p.votes).sum();
        return o.winner != NONE && 100 * o.votes >= now.bar * roll ? o.winner : NONE;
    }

    int seat(int district, int law) {
        return seat(law, standing(district), living(district), living(district), null);
    }

    int order(int speaker, int i) {
        if (!s(speaker)) return -2;
        Speaker p = now.speakers.get(speaker);
        List<Word> order = ranking(p, standing(p.home), null);
        return in(i, 0, order.size() - 1) ? order.get(i).number : NONE;
    }

    int votes(int word) {
        if (!w(word)) return -2;
        int home = now.words.get(word).home;
        return firsts(standing(home), standing(home), living(home), null)[word];
    }

    int abstains(int district) {
        if (!d(district)) return -2;
        int sum = 0;
        for (Speaker p : living(district)) if (ranking(p, standing(district), null).isEmpty()) sum += p.votes;
        return sum;
    }

    int wins(int district, int law) {
        return !d(district) || !in(law, 0, 3) ? -2 : hold(law, standing(district), living(district), null).winner;
    }

    int sits(int district, int law) {
        return !d(district) || !in(law, 0, 3) ? -2 : seat(district, law);
    }

    int with(int district, int law) {
        return !d(district) || !in(law, 0, 3) ? -2 : hold(law, standing(district), living(district), null).votes;
    }

    int struck(int district, int i) {
        if (!d(district)) return -2;
        List<Integer> struck = hold(2, standing(district), living(district), null).struck;
        return in(i, 0, struck.size() - 1) ? struck.get(i) : NONE;
    }

    int beats(int word, int other) {
        if (!w(word) || !w(other) || word == other) return -2;
        Word a = now.words.get(word), b = now.words.get(other);
        if (a.home != b.home || a.dead || b.dead) return -2;
        int sum = 0;
        for (Speaker p : living(a.home)) {
            List<Word> order = ranking(p, standing(a.home), null);
            if (order.contains(a) && (!order.contains(b) || order.indexOf(a) < order.indexOf(b))) sum += p.votes;
        }
        return sum;
    }

    int best(int district) {
        if (!d(district)) return -2;
        for (Word a : standing(district)) {
            if (standing(district).stream().allMatch(b ->
                a == b || beats(a.number, b.number) > beats(b.number, a.number))) return a.number;
        }
        return NONE;
    }

    int unlike(int law, int other) {
        if (no() || !in(law, 0, 3) || !in(other, 0, 3)) return -2;
        int n = 0;
        for (int x = 0; x < now.seats.size(); x++) if (seat(x, law) != seat(x, other)) n++;
        return n;
    }

    int synonyms(int word) {
        if (!w(word)) return -2;
        Word a = now.words.get(word);
        return bits(standing(a.home).stream().filter(b -> b != a && b.means == a.means).toList());
    }

    int spoils(int word) {
        if (!w(word) || now.words.get(word).dead) return -2;
        Word a = now.words.get(word);
        List<Word> rest = standing(a.home).stream().filter(b -> b != a).toList();
        return seat(now.law, rest, living(a.home), living(a.home), null);
    }

    int spoilers() {
        if (no()) return -2;
        int set = 0;
        for (Word a : now.words) {
            int sits = seat(a.home, now.law), then = spoils(a.number);
            if (!a.dead && sits != a.number && then != sits && then >= 0) set |= 1 << a.number;
        }
        return set;
    }

    int elected() {
        if (no()) return -2;
        int set = 0;
        for (int x = 0; x < now.seats.size(); x++) if (seat(x, now.law) != NONE) set |= 1 << seat(x, now.law);
        return set;
    }

    int sitting() {
        return no() ? -2 : now.sitting;
    }

    // terms

    int term() {
        if (no()) return -2;
        if (now.led.size() == 60) return -5;
        int n = now.words.size();
        int[] idle = new int[n];
        boolean[] dead = new boolean[n];
        for (Word w : now.words) {
            idle[w.number] = w.idle;
            dead[w.number] = w.dead;
        }
        now.found.push(new Found(now.sitting, idle, dead));
        now.sitting = elected();
        now.led.add(now.sitting);
        for (Word w : now.words) {
            boolean sits = (now.sitting >> w.number & 1) == 1;
            if (!w.dead && !sits) w.idle++;
            else w.idle = 0;
            if (w.idle >= now.dies) w.dead = true;
        }
        return Integer.bitCount(now.sitting);
    }

    int undo() {
        if (no()) return -2;
        if (now.led.isEmpty()) return -5;
        Found f = now.found.pop();
        now.led.remove(now.led.size() - 1);
        now.sitting = f.sitting;
        for (Word w : now.words) {
            w.idle = f.idle[w.number];
            w.dead = f.dead[w.number];
        }
        return now.led.size();
    }

    int led(int i) {
        if (no()) return -2;
        return in(i, 0, now.led.size() - 1) ? now.led.get(i) : NONE;
    }

    int dies() {
        if (no()) return -2;
        State kept = now;
        int answer = NONE;
        now = kept.copy();
        now.led.clear();
        long dead = now.words.stream().filter(w -> w.dead).count();
        for (int i = 1; i <= 60 && answer == NONE; i++) {
            term();
            if (now.words.stream().filter(w -> w.dead).count() > dead) answer = i;
        }
        now = kept;
        return answer;
    }

    // what can be said

    private int saidBy(int set, int meaning) {
        return now.words.stream().filter(w -> (set >> w.number & 1) == 1 && (w.means >> meaning & 1) == 1)
            .mapToInt(w -> w.letters).min().orElse(NONE);
    }

    /** The cheapest way by trees that name no MEANING twice on a path. */
    private int leastBy(int set, int meaning, int path) {
        int least = saidBy(set, meaning);
        for (int[] r : now.rounds) {
            if (r[0] != meaning || (path >> r[1] & 1) == 1 || (path >> r[2] & 1) == 1) continue;
            int next = path | 1 << meaning;
            if ((next >> r[1] & 1) == 1 || (next >> r[2] & 1) == 1) continue;
            int a = leastBy(set, r[1], next), b = leastBy(set, r[2], next);
            if (a != NONE && b != NONE && (least == NONE || a + b + 1 < least)) least = a + b + 1;
        }
        return least;
    }

    int said(int meaning) {
        return m(meaning) ? saidBy(now.sitting, meaning) : -2;
    }

    int least(int meaning) {
        return m(meaning) ? leastBy(now.sitting, meaning, 0) : -2;
    }

    private int roundBy(int set, int meaning) {
        int least = leastBy(set, meaning, 0);
        if (least == NONE || least == saidBy(set, meaning)) return NONE;
        for (int i = 0; i < now.rounds.size(); i++) {
            int[] r = now.rounds.get(i);
            int a = leastBy(set, r[1], 0), b = leastBy(set, r[2], 0);
            if (r[0] == meaning && a != NONE && b != NONE && a + b + 1 == least) return i;
        }
        throw new IllegalStateException("no round");
    }

    int round(int meaning) {
        return m(meaning) ? roundBy(now.sitting, meaning) : -2;
    }

    private int dumbBy(int set) {
        int dumb = 0;
        for (int x = 0; x < now.meanings; x++) if (leastBy(set, x, 0) == NONE) dumb |= 1 << x;
        return dumb;
    }

    int dumb() {
        return no() ? -2 : dumbBy(now.sitting);
    }

    private int costBy(int set, Speaker p) {
        int sum = 0;
        for (int x = 0; x < now.meanings; x++) {
            if ((p.needs >> x & 1) == 0) continue;
            int least = leastBy(set, x, 0);
            sum += p.votes * (least == NONE ? 40 : least);
        }
        return sum;
    }

    int cost(int speaker) {
        return s(speaker) ? costBy(now.sitting, now.speakers.get(speaker)) : -2;
    }

    private int allBy(int set) {
        int[] least = new int[now.meanings];
        for (int x = 0; x < now.meanings; x++) least[x] = leastBy(set, x, 0);
        int sum = 0;
        for (Speaker p : now.speakers) {
            for (int x = 0; x < now.meanings; x++) {
                if ((p.needs >> x & 1) == 1) sum += p.votes * (least[x] == NONE ? 40 : least[x]);
            }
        }
        return sum;
    }

    int costs() {
        return no() ? -2 : allBy(now.sitting);
    }

    int by(int set) {
        return no() || !in(set, 0, (1 << now.words.size()) - 1) ? -2 : allBy(set);
    }

    int cheapest(int district) {
        if (!d(district)) return -2;
        int others = 0;
        for (Word w : now.words) if (w.home != district) others |= now.sitting & 1 << w.number;
        int rest = others;
        return standing(district).stream().min(Comparator.comparingInt((Word w) -> allBy(rest | 1 << w.number))
            .thenComparingInt(w -> w.number)).map(w -> w.number).orElse(NONE);
    }

    int covers(int set) {
        if (no() || !in(set, 0, (1 << now.meanings) - 1)) return -2;
        int alive = bits(now.words.stream().filter(w -> !w.dead).toList());
        for (int size = 0; size <= 9; size++) {
            for (int words = 0; words < 512; words++) {
                if (Integer.bitCount(words) == size && (words & ~alive) == 0 && (dumbBy(words) & set) == 0) return words;
            }
        }
        return NONE;
    }

    int cover(int set) {
        int words = covers(set);
        return words < 0 ? words : Integer.bitCount(words);
    }

    private List<Integer> houses() {
        List<Integer> houses = new ArrayList<>(List.of(0));
        for (int x = 0; x < now.seats.size(); x++) {
            List<Integer> more = new ArrayList<>(houses);
            for (Word w : standing(x)) for (int h : houses) more.add(h | 1 << w.number);
            houses = more;
        }
        houses.sort(null);
        return houses;
    }

    int housed() {
        if (no()) return -2;
        int best = 0, cost = allBy(0);
        for (int h : houses()) {
            int c = allBy(h);
            if (c < cost) {
                cost = c;
                best = h;
            }
        }
        return best;
    }

    int house() {
        return no() ? -2 : allBy(housed());
    }

    // feints

    private int[] feints(Speaker p) {
        int sits = seat(p.home, now.law);
        int before = sits == NONE ? 0 : like(p, now.words.get(sits));
        int most = 0, by = NONE;
        for (Word w : standing(p.home)) {
            int then = seat(now.law, standing(p.home), living(p.home), living(p.home), new Feint(p, w));
            int gain = (then == NONE ? 0 : like(p, now.words.get(then))) - before;
            if (gain > most) {
                most = gain;
                by = w.number;
            }
        }
        return new int[] {by, most};
    }

    int feint(int speaker) {
        return s(speaker) ? feints(now.speakers.get(speaker))[0] : -2;
    }

    int gains(int speaker) {
        return s(speaker) ? feints(now.speakers.get(speaker))[1] : -2;
    }

    int restless() {
        if (no()) return -2;
        int set = 0;
        for (Speaker p : now.speakers) if (feints(p)[1] > 0) set |= 1 << p.number;
        return set;
    }

    // parties

    int seats(int party) {
        if (no() || !in(party, 0, 3)) return -2;
        int sum = 0;
        for (Word w : now.words) if (w.party == party && (now.sitting >> w.number & 1) == 1) sum += now.seats.get(w.home);
        return sum;
    }

    int majority(int set) {
        if (no() || !in(set, 0, 15)) return -2;
        int sum = 0, all = now.seats.stream().mapToInt(x -> x).sum();
        for (int p = 0; p < 4; p++) if ((set >> p & 1) == 1) sum += seats(p);
        return sum > all - sum ? 1 : 0;
    }

    private int pivots(int party, int came, int pivot) {
        if (came == 15) return pivot == party ? 1 : 0;
        int sum = 0;
        for (int p = 0; p < 4; p++) {
            if ((came >> p & 1) == 1) continue;
            int then = came | 1 << p;
            sum += pivots(party, then, majority(came) == 0 && majority(then) == 1 ? p : pivot);
        }
        return sum;
    }

    int share(int party, int what) {
        if (no() || !in(party, 0, 3) || !in(what, 0, 1)) return -2;
        int n = pivots(party, 0, NONE);
        int g = BigInteger.valueOf(n).gcd(BigInteger.valueOf(24)).intValue();
        return (what == 0 ? n : 24) / g;
    }

    int coalition() {
        if (no()) return -2;
        for (int size = 0; size <= 4; size++) {
            for (int set = 0; set < 16; set++) if (Integer.bitCount(set) == size && majority(set) == 1) return set;
        }
        return NONE;
    }

    int breaks(int set) {
        if (no() || !in(set, 0, 15)) return -2;
        int out = 0;
        if (majority(set) == 0) return 0;
        for (int p = 0; p < 4; p++) if ((set >> p & 1) == 1 && majority(set ^ 1 << p) == 0) out |= 1 << p;
        return out;
    }

    int lists(int n, int party) {
        if (no() || !in(n, 0, 20) || !in(party, 0, 3)) return -2;
        int[] votes = new int[4], got = new int[4];
        for (Word w : now.words) votes[w.party] += votes(w.number);
        if (Arrays.stream(votes).sum() == 0) return 0;
        for (int i = 0; i < n; i++) {
            int next = 0;
            for (int p = 1; p < 4; p++) {
                if ((double) votes[p] / (got[p] + 1) > (double) votes[next] / (got[next] + 1) + 1e-9) next = p;
            }
            got[next]++;
        }
        return got[party];
    }

    private int[] bestRow;
    private int bestCount;

    private void drawRows(int party, int[] row, int i) {
        if (i == row.length) {
            int count = 0;
            for (int x = 0; x < now.seats.size(); x++) {
                List<Speaker> here = new ArrayList<>();
                for (int k = 0; k < row.length; k++) if (row[k] == x) here.add(now.speakers.get(k));
                if (here.isEmpty()) return;
                int sits = seat(now.law, standing(x), here, here, null);
                if (sits != NONE && now.words.get(sits).party == party) count++;
            }
            if (count > bestCount) {
                bestCount = count;
                bestRow = row.clone();
            }
            return;
        }
        for (int x = 0; x < now.seats.size(); x++) {
            row[i] = x;
            drawRows(party, row, i + 1);
        }
    }

    private int rig(int party) {
        if (!in(party, 0, 3) || now.seats.isEmpty()) return -2;
        if (now.speakers.size() > 6 || now.speakers.size() < now.seats.size()) return NONE;
        bestCount = NONE;
        drawRows(party, new int[now.speakers.size()], 0);
        return 0;
    }

    int rigged(int party) {
        int r = rig(party);
        return r != 0 ? r : bestCount;
    }

    int put(int party, int speaker) {
        if (!s(speaker)) return -2;
        int r = rig(party);
        return r != 0 ? r : bestRow[speaker];
    }

    // speeches

    private int refuse(int slot) {
        if (!in(slot, 0, 3) || no()) return -2;
        if (rows[slot] == null) return -6;
        if (rows[slot].length % 2 == 1) return -2;
        for (int i = 0; i < rows[slot].length; i++) {
            BigInteger n = rows[slot][i];
            boolean good = n.signum() >= 0 && n.bitLength() < 8
                && (i % 2 == 0 ? m(n.intValue()) : w(n.intValue()) || n.intValue() == 9);
            if (!good) return -2;
        }
        return 0;
    }

    private int lie(int slot, int set) {
        BigInteger[] r = rows[slot];
        for (int i = 0; i < r.length; i += 2) {
            int meaning = r[i].intValue(), by = r[i + 1].intValue();
            if (by == 9) {
                int least = leastBy(set, meaning, 0);
                if (least == NONE || least == saidBy(set, meaning)) return i / 2;
            } else if ((set >> by & 1) == 0 || (now.words.get(by).means >> meaning & 1) == 0) {
                return i / 2;
            }
        }
        return NONE;
    }

    int speech(int slot) {
        int r = refuse(slot);
        return r != 0 ? r : lie(slot, now.sitting);
    }

    int fits(int slot) {
        int r = refuse(slot);
        return r != 0 ? r : (int) houses().stream().filter(h -> lie(slot, h) == NONE).count();
    }

    int sure(int slot, int what) {
        int r = refuse(slot);
        if (!in(what, 0, 1)) return -2;
        if (r != 0) return r;
        List<Integer> all = houses().stream().filter(h -> lie(slot, h) == NONE).toList();
        if (what == 1) return all.stream().reduce(0, (a, b) -> a | b);
        return all.isEmpty() ? 0 : all.stream().reduce(-1, (a, b) -> a & b);
    }

    // changes

    int stand(int word, int district) {
        if (!w(word) || !d(district)) return -2;
        if (!now.led.isEmpty()) return -5;
        int was = now.words.get(word).home;
        now.words.get(word).home = district;
        return was;
    }

    int need(int speaker, int set) {
        if (!s(speaker) || !in(set, 1, (1 << now.meanings) - 1)) return -2;
        int was = now.speakers.get(speaker).needs;
        now.speakers.get(speaker).needs = set;
        return was;
    }

    int bill(int what, int n) {
        if (no()) return -2;
        int was;
        if (what == 0 && in(n, 0, 3)) {
            was = now.law;
            now.law = n;
            return was;
        }
        if (what == 1 && in(n, 0, 100)) {
            was = now.bar;
            now.bar = n;
            return was;
        }
        if (what == 2 && in(n, 1, 9)) {
            was = now.dies;
            now.dies = n;
            return was;
        }
        return -2;
    }

    private int drawnSeat(long seed, int district) {
        BigInteger x = BigInteger.valueOf(seed);
        List<Speaker> come = new ArrayList<>();
        for (Speaker p : now.speakers) {
            x = x.multiply(BigInteger.valueOf(1103515245)).add(BigInteger.valueOf(12345)).mod(BigInteger.TWO.pow(31));
            if (x.shiftRight(16).mod(BigInteger.valueOf(100)).intValue() < p.comes && p.home == district) come.add(p);
        }
        return seat(now.law, standing(district), come, living(district), null);
    }

    int drawn(int seed, int district) {
        return !in(seed, 0, 2000000000) || !d(district) ? -2 : drawnSeat(seed, district);
    }

    int years(int seed, int n, int word) {
        if (!in(seed, 0, 2000000000) || !in(n, 1, 20) || !w(word)) return -2;
        int years = 0;
        for (int i = 0; i < n; i++) if (drawnSeat((long) seed + i, now.words.get(word).home) == word) years++;
        return years;
    }

    // what is kept

    int count(int what) {
        if (!in(what, 0, 11)) return NONE;
        int filled = (int) Arrays.stream(rows).filter(r -> r != null).count();
        return new int[] {now.meanings, now.law, now.bar, now.dies, now.seats.size(), now.words.size(),
            now.speakers.size(), now.rounds.size(), now.led.size(), now.lines, tape.length(), filled}[what];
    }

    int image(int k) {
        if (!in(k, 0, 2)) return -2;
        images[k] = now.copy();
        return 0;
    }

    int back(int k) {
        if (!in(k, 0, 2)) return -2;
        if (images[k] == null) return -6;
        now = images[k].copy();
        return 0;
    }

    int row(int slot, int width, int n) {
        if (!in(slot, 0, 3) || !in(width, 0, 3) || n > 60) return -2;
        if (n < 0) return -3;
        rows[slot] = new BigInteger[n];
        Arrays.fill(rows[slot], BigInteger.ZERO);
        widths[slot] = width;
        return 0;
    }

    int write(int slot, int i, long v) {
        if (!in(slot, 0, 3)) return -2;
        if (rows[slot] == null) return -6;
        if (!in(i, 0, rows[slot].length - 1)) return -7;
        rows[slot][i] = BigInteger.valueOf(v).mod(BigInteger.TWO.pow(8 << widths[slot]));
        return 0;
    }

    int paste(int slot, int i, int to, int k, int n) {
        if (!in(slot, 0, 3) || !in(to, 0, 3)) return -2;
        if (rows[slot] == null || rows[to] == null) return -6;
        if (widths[slot] != widths[to]) return -8;
        if (i < 0 || k < 0 || n < 0 || (long) i + n > rows[slot].length || (long) k + n > rows[to].length) return -7;
        BigInteger[] were = rows[slot].clone();
        for (int x = 0; x < n; x++) rows[to][k + x] = were[i + x];
        return 0;
    }
}
