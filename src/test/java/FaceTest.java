import java.io.IOException;
import java.lang.reflect.Constructor;
import java.lang.reflect.Field;
import java.lang.reflect.Method;
import java.lang.reflect.Modifier;
import java.nio.file.Files;
import java.nio.file.Path;
import java.util.ArrayList;
import java.util.List;
import java.util.Set;
import java.util.TreeSet;
import java.util.regex.Matcher;
import java.util.regex.Pattern;

/** The face of the document, and nothing beside it (rule 1 of LANGUAGE.md). */
final class FaceTest {
    private static final Path DOCUMENT = Path.of("../shared/DOC.md");
    private static final Due DUE = new Due("FaceTest");

    public static void main(String[] args) throws IOException {
        face();
        DUE.close();
    }

    private static void say(String what, Object found) {
        DUE.is(what + " " + found, 0, 1);
    }

    private static String types(Class<?>[] types) {
        List<String> names = new ArrayList<>();
        for (Class<?> type : types) names.add(type.getSimpleName());
        return String.join(",", names);
    }

    private static void face() throws IOException {
        Set<String> told = new TreeSet<>();
        Matcher line = Pattern.compile("(?m)^    public (int )?(\\w+)\\(([^)]*)\\);").matcher(Files.readString(DOCUMENT));
        while (line.find()) {
            told.add(line.group(2) + "(" + line.group(3).replaceAll(" \\w+(,|$)", "$1").replaceAll(" ", "") + ")");
        }
        DUE.is("methods and constructors told", 65, told.size());
        Set<String> found = new TreeSet<>();
        Set<String> hidden = new TreeSet<>();
        Set<String> names = new TreeSet<>();
        for (Method m : WordSeats.class.getDeclaredMethods()) {
            if (Modifier.isPublic(m.getModifiers())) {
                found.add(m.getName() + "(" + types(m.getParameterTypes()) + ")");
                names.add(m.getName());
                DUE.is(m.getName() + " answers an int", 1, m.getReturnType() == int.class ? 1 : 0);
            } else if (!Modifier.isPrivate(m.getModifiers())) say("rule 1: not private:", m);
        }
        for (Constructor<?> c : WordSeats.class.getDeclaredConstructors()) {
            found.add("WordSeats(" + types(c.getParameterTypes()) + ")");
        }
        if (!told.equals(found)) say("rule 1: the face is", found);
        for (Class<?> c : withInside()) {
            for (Method m : c.getDeclaredMethods()) {
                if (c != WordSeats.class || !Modifier.isPublic(m.getModifiers())) hidden.add(m.getName());
            }
        }
        hidden.retainAll(names);
        if (!hidden.isEmpty()) say("rule 1: named as public ones are:", hidden);
        for (Field f : WordSeats.class.getDeclaredFields()) {
            if (!f.getName().equals("NONE") && !Modifier.isPrivate(f.getModifiers())) say("rule 1: not private:", f);
        }
        DUE.is("public and final", Modifier.PUBLIC | Modifier.FINAL, WordSeats.class.getModifiers());
    }

    private static List<Class<?>> withInside() {
        List<Class<?>> all = new ArrayList<>(List.of(WordSeats.class));
        all.addAll(List.of(WordSeats.class.getDeclaredClasses()));
        return all;
    }
}
