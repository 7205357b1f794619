import java.io.IOException;
import java.lang.reflect.Constructor;
import java.lang.reflect.Field;
import java.lang.reflect.Method;
import java.lang.reflect.Modifier;
import java.nio.charset.StandardCharsets;
import java.nio.file.Files;
import java.nio.file.Path;
import java.util.ArrayList;
import java.util.List;
import java.util.Set;
import java.util.TreeSet;
import java.util.regex.Matcher;
import java.util.regex.Pattern;

/** The face of the document, and the rules of LANGUAGE.md that a program can look after. */
final class RulesTest {
    private static final Path SOURCE = Path.of("src/main/java/WordSeats.java");
    private static final Path DOCUMENT = Path.of("../shared/DOC.md");
    private static final Due DUE = new Due("RulesTest");

    public static void main(String[] args) throws IOException {
        face();
        classesInside();
        wordsNotUsed();
        lengths();
        DUE.close();
    }

    private static void say(String what, Object found) {
        DUE.is(what + " " + found, 0, 1);
    }

    private static String types(Class<?>[] types) {
        List<String> names = new ArrayList<>();
        for (Class<?> type : types) names.add(type.getSimpleName());
        return String.join(",", names);
    }

    private static void face() throws IOException {
        Set<String> told = new TreeSet<>();
        Matcher line = Pattern.compile("(?m)^    public (int )?(\\w+)\\(([^)]*)\\);").matcher(Files.readString(DOCUMENT));
        while (line.find()) {
            told.add(line.group(2) + "(" + line.group(3).replaceAll(" \\w+(,|$)", "$1").replaceAll(" ", "") + ")");
        }
        DUE.is("methods and constructors told", 65, told.size());
        Set<String> found = new TreeSet<>();
        Set<String> hidden = new TreeSet<>();
        Set<String> names = new TreeSet<>();
        for (Method m : WordSeats.class.getDeclaredMethods()) {
            if (Modifier.isPublic(m.getModifiers())) {
                found.add(m.getName() + "(" + types(m.getParameterTypes()) + ")");
                names.add(m.getName());
                DUE.is(m.getName() + " answers an int", 1, m.getReturnType() == int.class ? 1 : 0);
            } else if (!Modifier.isPrivate(m.getModifiers())) say("rule 1: not private:", m);
        }
        for (Constructor<?> c : WordSeats.class.getDeclaredConstructors()) {
            found.add("WordSeats(" + types(c.getParameterTypes()) + ")");
        }
        if (!told.equals(found)) say("rule 1: the face is", found);
        for (Class<?> c : withInside()) {
            for (Method m : c.getDeclaredMethods()) {
                if (c != WordSeats.class || !Modifier.isPublic(m.getModifiers())) hidden.add(m.getName());
            }
        }
        hidden.retainAll(names);
        if (!hidden.isEmpty()) say("rule 1: named as public ones are:", hidden);
        for (Field f : WordSeats.class.getDeclaredFields()) {
            if (!f.getName().equals("NONE") && !Modifier.isPrivate(f.getModifiers())) say("rule 1: not private:", f);
        }
        DUE.is("public and final", Modifier.PUBLIC | Modifier.FINAL, WordSeats.class.getModifiers());
    }

    private static List<Class<?>> withInside() {
        List<Class<?>> all = new ArrayList<>(List.of(WordSeats.class));
        all.addAll(List.of(WordSeats.class.getDeclaredClasses()));
        return all;
    }

    private static void classesInside() {
        if (withInside().size() > 12) say("rule 11: classes", withInside().size());
        for (Class<?> c : withInside()) {
            if (c != WordSeats.class && !Modifier.isStatic(c.getModifiers())) say("rule 2: not static:", c);
            if (c.getDeclaredClasses().length > 0 && c != WordSeats.class) say("rule 2: classes in", c);
            int fields = 0;
            for (Field f : c.getDeclaredFields()) {
                if (!Modifier.isStatic(f.getModifiers())) fields++;
                else if (!Modifier.isFinal(f.getModifiers())) say("rule 5: not final:", f);
                else if (!List.of(int.class, long.class, boolean.class, char.class, String.class, int[].class)
                    .contains(f.getType())) say("rule 5: no constant:", f);
            }
            if (fields > 20) say("rule 11: fields of " + c, fields);
            for (Method m : c.getDeclaredMethods()) {
                if (m.getParameterCount() > 7) say("rule 11: parameters of", m);
            }
        }
    }

    /** The source without comments, and without what stands in texts and signs. */
    private static String bare() throws IOException {
        String source = Files.readString(SOURCE, StandardCharsets.US_ASCII);
        return source.replaceAll("(?s)/\\*.*?\\*/", "").replaceAll("//[^\n]*", "")
            .replaceAll("\"[^\"\n]*\"", "TEXT").replaceAll("'\\\\?[^\n]'", "SIGN");
    }

    private static void wordsNotUsed() throws IOException {
        String bare = bare();
        String[] not = {"\\bthrows?\\b", "\\btry\\b", "\\bcatch\\b", "\\bsynchronized\\b", "\\bassert\\b", "->", "::",
            "\\bsuper\\b", "\\bObject\\b", "\\bSystem\\.(?!arraycopy)", "Exact\\b", "\\bstatic \\{", "\\bpackage\\b",
            "\\bvar\\b", "TEXT \\+", "\\+ TEXT", "\\bimport (?!java\\.util\\.Arrays;)", "\\bvolatile\\b", "\\btransient\\b",
            "\\bfloat\\b", "\\bdouble\\b", "\\bArrays\\.(?!fill|copyOf)", "\\bhashCode\\b", "\\btoString\\b"};
        for (String word : not) {
            Matcher m = Pattern.compile(word).matcher(bare);
            if (m.find()) say("not in LANGUAGE.md:", bare.substring(m.start(), Math.min(bare.length(), m.end() + 30)));
        }
        DUE.is("looked through", 1, bare.contains("public final class WordSeats") ? 1 : 0);
    }

    /** A method begins by a line that ends with a brace behind its parameters, and ends by one as far in. */
    private static void lengths() throws IOException {
        List<String> lines = Files.readAllLines(SOURCE);
        Pattern head = Pattern.compile("( {4}| {8})(?! )(?!.*\\b(class|if|for|while|switch)\\b).*\\) \\{");
        for (int i = 0; i < lines.size(); i++) {
            Matcher m = head.matcher(lines.get(i));
            if (!m.matches()) continue;
            int end = i;
            while (!lines.get(end).equals(m.group(1) + "}")) end++;
            if (end - i + 1 > 60) say("rule 11: lines of " + lines.get(i).trim(), end - i + 1);
        }
    }
}
