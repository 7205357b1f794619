import java.lang.reflect.InvocationTargetException;
import java.lang.reflect.Method;
import java.lang.reflect.Modifier;
import java.util.Arrays;
import java.util.LinkedHashMap;
import java.util.List;
import java.util.Map;
import java.util.Set;

/** Chambers that are empty, full or of likes alone: every call that changes nothing, by all arguments, against the Model. */
final class GridTest {
    private static final int[] ARGUMENTS = {-1, 0, 1, 2, 3, 4, 5, 6, 7, 8, 9, 10, Integer.MAX_VALUE, Integer.MIN_VALUE};
    private static final int[] SETS = {-1, 0, 1, 2, 3, 7, 8, 15, 16, 31, 85, 127, 128, 255, 256, 257, 511, 512,
        Integer.MAX_VALUE, Integer.MIN_VALUE};
    private static final int[] SEEDS = {-1, 0, 1, 77, 2000000000, 2000000001, Integer.MIN_VALUE};
    private static final Set<String> CHANGING = Set.of("feed", "end", "chamber", "term", "undo", "stand", "need", "bill", "image",
        "back", "row", "write", "paste");
    private static final Set<String> OF_SETS = Set.of("by", "cover", "covers", "majority", "breaks");
    private static final Due DUE = new Due("GridTest");

    private final WordSeats x = new WordSeats();
    private final Model m = new Model();
    private final String name;

    private GridTest(String name) {
        this.name = name;
    }

    public static void main(String[] args) {
        for (Map.Entry<String, String> text : texts().entrySet()) {
            for (int law = 0; law < 4; law++) {
                GridTest test = new GridTest(text.getKey() + ", law " + law);
                test.tell(text.getValue());
                test.x.bill(0, law);
                test.m.bill(0, law);
                test.askAll();
                for (int i = 0; i < 2; i++) {
                    DUE.is(test.name + ": term()", test.m.term(), test.x.term());
                }
                test.askAll();
            }
        }
        DUE.close();
    }

    private static Map<String, String> texts() {
        Map<String, String> all = new LinkedHashMap<>();
        all.put("none", "");
        all.put("bare", Town.of(8).text());
        all.put("districts alone", Town.of(1).district(9).district(1).district(9).district(1).text());
        all.put("words alone", full(9, 0, 0).text());
        all.put("speakers alone", full(0, 9, 8).text());
        all.put("full", full(9, 9, 8).text());
        all.put("full, above the bar or nobody", full(9, 9, 8).bar(67).text());
        all.put("six speakers", full(9, 6, 2).text());
        all.put("all alike", alike().text());
        all.put("laws", Texts.LAWS);
        all.put("spoilt", Texts.SPOILT);
        all.put("tongue", Texts.TONGUE);
        return all;
    }

    /** As many lines as there may be of words, speakers and rounds; every round leads on to another one. */
    private static Town full(int words, int speakers, int rounds) {
        Town town = Town.of(8).dies(2).district(1).district(9).district(4).district(4);
        for (int i = 0; i < words; i++) {
            town.word(1 + 5 * i % 12, i % 4, i % 3, i % 8, 3 * i % 8);
        }
        for (int i = 0; i < speakers; i++) {
            town.comer(i * i % 4, 99 - 7 * i, 100 - 9 * i, i % 8, (i + 3) % 8, 5 * i % 8);
        }
        for (int i = 0; i < rounds; i++) {
            town.round(i, (i + 1) % 8, (i + 2) % 8);
        }
        return town;
    }

    private static Town alike() {
        Town town = Town.of(1).dies(1).district(2).district(2);
        for (int i = 0; i < 9; i++) {
            town.word(6, i % 2, i % 4, 0);
        }
        for (int i = 0; i < 5; i++) {
            town.comer(i % 2, 10, 50, 0);
        }
        return town;
    }

    private void tell(String text) {
        Due.tell(x, text);
        m.tape.append(text);
        DUE.is(name + ": chamber()", m.chamber(), x.chamber());
        long[][] rows = {{0, 0, 1, 9}, {1, 2, 3}, {}};
        for (int slot = 0; slot < rows.length; slot++) {
            Due.lay(x, slot, slot, rows[slot]);
            m.row(slot, slot, rows[slot].length);
            for (int i = 0; i < rows[slot].length; i++) {
                m.write(slot, i, rows[slot][i]);
            }
        }
    }

    private void askAll() {
        for (Method call : WordSeats.class.getDeclaredMethods()) {
            if (!Modifier.isPublic(call.getModifiers()) || CHANGING.contains(call.getName())) continue;
            Object[] given = new Object[call.getParameterCount()];
            askWith(call, given, 0);
        }
    }

    private void askWith(Method call, Object[] given, int i) {
        if (i == given.length) {
            ask(call, given);
            return;
        }
        for (int argument : argumentsOf(call.getName(), i)) {
            given[i] = argument;
            askWith(call, given, i + 1);
        }
    }

    private int[] argumentsOf(String call, int i) {
        if (OF_SETS.contains(call)) return SETS;
        if (i == 0 && List.of("drawn", "years").contains(call)) return SEEDS;
        if (i == 1 && call.equals("years")) return new int[] {0, 1, 20, 21};
        if (i == 0 && call.equals("lists")) return new int[] {-1, 0, 1, 7, 20, 21};
        // The Model takes its time to draw districts.
        if (i == 0 && List.of("rigged", "put").contains(call) && m.now.seats.size() > 2) return new int[] {-1, 1, 4};
        return ARGUMENTS;
    }

    private void ask(Method call, Object[] given) {
        String asked = name + ": " + call.getName() + Arrays.toString(given);
        try {
            Object want = Model.class.getDeclaredMethod(call.getName(), call.getParameterTypes()).invoke(m, given);
            DUE.is(asked, (Integer) want, (Integer) call.invoke(x, given));
        } catch (NoSuchMethodException | IllegalAccessException | InvocationTargetException e) {
            DUE.is(asked + " breaks off by " + e + ", " + e.getCause(), 0, 1);
        }
    }
}
