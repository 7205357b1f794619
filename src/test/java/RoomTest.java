import java.lang.management.ManagementFactory;
import java.lang.reflect.Array;
import java.lang.reflect.Field;
import java.lang.reflect.Modifier;
import java.util.Collections;
import java.util.IdentityHashMap;
import java.util.Set;

/** All calls live in one room: an object is small, and no call makes another one. */
final class RoomTest {
    private static final Due DUE = new Due("RoomTest");
    private static final com.sun.management.ThreadMXBean THREADS =
        (com.sun.management.ThreadMXBean) ManagementFactory.getThreadMXBean();

    /** As much as a chamber may have, for the dearest calls. */
    private static String large(int speakers) {
        StringBuilder text = new StringBuilder("chamber meanings 8 law strike bar 0 dies 9;");
        for (int i = 0; i < 4; i++) text.append("district seats ").append(i + 1).append(';');
        for (int i = 0; i < 9; i++) {
            text.append("word letters ").append(i + 1).append(" in ").append(i % 4).append(" party ").append(i % 4)
                .append(" means ").append(i % 8).append(' ').append((i + 4) % 8).append(';');
        }
        for (int i = 0; i < speakers; i++) {
            text.append("speaker in ").append(i % 4).append(" votes ").append(i + 1).append(" comes 50 needs ")
                .append(i % 8).append(' ').append((i + 2) % 8).append(' ').append((i + 4) % 8).append(';');
        }
        for (int i = 0; i < 8; i++) {
            text.append("round ").append(i).append(" by ").append((i + 1) % 8).append(" and ").append((i + 1) % 8).append(';');
        }
        return text.toString();
    }

    public static void main(String[] args) throws IllegalAccessException {
        Set<Object> seen = Collections.newSetFromMap(new IdentityHashMap<>());
        long places = places(new WordSeats(), seen);
        System.out.println("an object has " + seen.size() + " objects and arrays with " + places + " fields and elements");
        DUE.is("few objects", 1, seen.size() < 200 ? 1 : 0);
        DUE.is("few fields and elements", 1, places < 8000 ? 1 : 0);
        WordSeats x = Due.chamber(large(6));
        Due.tell(x, large(9));
        DUE.is("a first time", 1, made(x) >= 0 ? 1 : 0);
        x = Due.chamber(large(6));
        Due.tell(x, large(9));
        DUE.is("bytes made by calls", 0, made(x));
        DUE.close();
    }

    private static long places(Object object, Set<Object> seen) throws IllegalAccessException {
        if (object == null || !seen.add(object)) return 0;
        long places = 0;
        if (object.getClass().isArray()) {
            places += Array.getLength(object);
            if (!object.getClass().getComponentType().isPrimitive()) {
                for (int i = 0; i < Array.getLength(object); i++) places += places(Array.get(object, i), seen);
            }
            return places;
        }
        for (Field f : object.getClass().getDeclaredFields()) {
            if (Modifier.isStatic(f.getModifiers())) continue;
            places++;
            f.setAccessible(true);
            if (!f.getType().isPrimitive()) places += places(f.get(object), seen);
        }
        return places;
    }

    private static long made(WordSeats x) {
        long before = THREADS.getThreadAllocatedBytes(Thread.currentThread().getId());
        all(x);
        x.chamber();
        all(x);
        return THREADS.getThreadAllocatedBytes(Thread.currentThread().getId()) - before;
    }

    private static void all(WordSeats x) {
        x.feed(1, 2, 3, 4, 5);
        x.end(x.count(10) - 20);
        x.term();
        for (int i = 0; i < 9; i++) {
            x.word(i, 0);
            x.order(i, 1);
            x.votes(i);
            x.spoils(i);
            x.synonyms(i);
            x.feint(i);
            x.years(i, 20, i);
            x.cost(i);
        }
        for (int i = 0; i < 4; i++) {
            x.wins(i, i);
            x.struck(i, 1);
            x.best(i);
            x.cheapest(i);
            x.abstains(i);
            x.share(i, 0);
            x.lists(20, i);
            x.rigged(i);
            x.put(i, i);
            x.row(i, i, 4);
            x.write(i, 1, i);
            x.speech(i);
            x.fits(i);
            x.sure(i, 0);
            x.image(i);
            x.back(i);
        }
        x.paste(0, 0, 0, 1, 2);
        x.cover(255);
        x.covers(1);
        x.house();
        x.housed();
        x.restless();
        x.spoilers();
        x.coalition();
        x.unlike(1, 2);
        x.dies();
        x.dumb();
        x.by(511);
        x.undo();
    }
}
