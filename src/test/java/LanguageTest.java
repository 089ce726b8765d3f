import java.io.IOException;
import java.lang.reflect.Array;
import java.lang.reflect.Field;
import java.lang.reflect.Method;
import java.lang.reflect.Modifier;
import java.nio.file.Files;
import java.nio.file.Path;
import java.util.ArrayList;
import java.util.Collections;
import java.util.IdentityHashMap;
import java.util.List;
import java.util.Set;
import java.util.regex.Matcher;
import java.util.regex.Pattern;

/** The rules of LANGUAGE.md that can be looked up in the source or in the compiled class. */
public final class LanguageTest {
    private static final Path SOURCE = Path.of("src/main/java/LayoutFront.java");
    private static final Set<String> FACE =
            Set.of("write", "erase", "fixity", "read", "place", "kind", "token", "count");
    private static final Set<String> LIBRARY =
            Set.of("Math.max", "Math.min", "IllegalArgumentException", "IllegalStateException", "IndexOutOfBoundsException");
    private static final Set<Class<?>> CONSTANTS =
            Set.of(int.class, long.class, boolean.class, char.class, String.class, int[].class, long[].class, char[].class, byte[].class);

    public static void main(String[] args) throws IOException, IllegalAccessException {
        Checks c = new Checks();
        String code = code(Files.readString(SOURCE));
        List<Class<?>> all = new ArrayList<>(List.of(LayoutFront.class.getDeclaredClasses()));
        all.add(LayoutFront.class);
        words(c, code);
        library(c, code, all);
        lengths(c, code);
        c.sentence("11: the file has at most some twelve classes");
        c.due("classes", true, all.size() <= 12);
        for (Class<?> one : all) {
            members(c, one);
        }
        room(c);
        c.end();
    }

    /** The source without comments, and without what stands in texts and characters. */
    private static String code(String source) {
        return source.replaceAll("\"(\\\\.|[^\"\\\\\n])*\"", "\"\"").replaceAll("'(\\\\.|[^'\\\\\n])'", "' '")
                .replaceAll("//[^\n]*", "").replaceAll("(?s)/\\*.*?\\*/", "");
    }

    private static void absent(Checks c, String rule, String code, String... patterns) {
        c.sentence(rule);
        for (String pattern : patterns) {
            Matcher m = Pattern.compile(pattern).matcher(code);
            c.due("found", "", m.find() ? m.group() : "");
        }
    }

    private static void words(Checks c, String code) {
        absent(c, "no package line, no import", code, "\\bpackage\\b", "\\bimport\\b");
        absent(c, "1: no protected member", code, "\\bprotected\\b");
        absent(c, "2: no lambda, no method reference", code, "->", "::");
        absent(c, "3: types", code, "\\b(double|float|Object|Integer|Long)\\b");
        absent(c, "5: no static initialiser block", code, "\\bstatic\\s*\\{");
        absent(c, "6: exceptions", code, "\\b(try|catch|finally|synchronized|assert|instanceof|extends|implements)\\b");
        absent(c, "6: a written text", code, "throw (?!new \\w+\\(\"\"\\);)");
        absent(c, "9: every loop has an end", code, "while \\(true\\)", "for \\([^;]*; *;");
        absent(c, "10: joining texts not by +", code, "\"\" *\\+", "\\+ *\"\"");
        absent(c, "13: the same calls always give the same answers", code, "\\b(System|Thread|Random|hashCode)\\b");
    }

    /** Every capital name before a dot or a bracket is a class of the file or listed in rule 4 or 6. */
    private static void library(Checks c, String code, List<Class<?>> all) {
        c.sentence("4: only what stands here");
        List<String> own = all.stream().map(Class::getSimpleName).toList();
        Matcher m = Pattern.compile("\\b([A-Z]\\w*[a-z]\\w*)(\\.\\w+)?").matcher(code);
        while (m.find()) {
            boolean known = own.contains(m.group(1)) || LIBRARY.contains(m.group(1)) || LIBRARY.contains(m.group());
            c.due("known: " + m.group(), true, known);
        }
        Matcher text = Pattern.compile("\"\"\\.(\\w+)").matcher(code);
        while (text.find()) {
            c.due("what is asked of a text", "indexOf", text.group(1));
        }
    }

    /** A method begins and ends at the same indent. */
    private static void lengths(Checks c, String code) {
        c.sentence("11: methods stay short (some sixty lines)");
        Matcher m = Pattern.compile("(?m)^( {4}| {8})\\S[^;=]*\\)[^;=]*\\{\n((?:.*\n)*?)\\1\\}$").matcher(code);
        int methods = 0;
        while (m.find()) {
            methods++;
            c.due("short: " + m.group().lines().findFirst().orElse(""), true, m.group(2).lines().count() <= 60);
        }
        c.due("enough methods are seen", true, methods > 100);
    }

    private static void members(Checks c, Class<?> one) {
        boolean outer = one == LayoutFront.class;
        c.sentence("1: the classes inside it, which are private or package-visible and static");
        c.due(one.getName(), true, outer || Modifier.isStatic(one.getModifiers()) && !Modifier.isPublic(one.getModifiers()));
        int fields = 0;
        for (Field f : one.getDeclaredFields()) {
            boolean isStatic = Modifier.isStatic(f.getModifiers());
            fields += isStatic ? 0 : 1;
            c.sentence("5: static fields are final");
            c.due(f.toString(), true, !isStatic || Modifier.isFinal(f.getModifiers()) && CONSTANTS.contains(f.getType()));
        }
        c.sentence("11: a class some twenty fields, a method at most seven parameters");
        c.due(one.getName(), true, fields <= 20);
        for (Method m : one.getDeclaredMethods()) {
            c.due(m.toString(), true, m.getParameterCount() <= 7);
        }
        c.sentence("1: no private method bears the name of a public one");
        for (Method m : one.getDeclaredMethods()) {
            c.due(m.toString(), FACE.contains(m.getName()), outer && Modifier.isPublic(m.getModifiers()));
        }
    }

    /** A run has one room: an object has its rows from the start, and calls make none. */
    private static void room(Checks c) throws IllegalAccessException {
        c.sentence("12: what a run makes is counted");
        LayoutFront x = new LayoutFront();
        Set<Object> made = reached(x);
        long elements = 0;
        for (Object o : made) {
            elements += o.getClass().isArray() ? Array.getLength(o) : o.getClass().getDeclaredFields().length;
        }
        c.due("few objects and arrays: " + made.size(), true, made.size() <= 60);
        c.due("few fields and elements: " + elements, true, elements <= 6000);
        for (String text : new String[] {"do a + b\n   c == - d", "(", "a ".repeat(91), "do\n".repeat(80), "a+".repeat(44) + "a"}) {
            Checks.rewrite(x, text);
            x.fixity('+', 1, 6);
            Checks.answerOf(() -> x.read());
        }
        Set<Object> now = reached(x);
        c.due("the same ones behind reads", true, now.size() == made.size() && made.containsAll(now));
    }

    private static Set<Object> reached(Object from) throws IllegalAccessException {
        Set<Object> all = Collections.newSetFromMap(new IdentityHashMap<>());
        List<Object> rest = new ArrayList<>(List.of(from));
        while (!rest.isEmpty()) {
            Object o = rest.remove(rest.size() - 1);
            if (!all.add(o) || o.getClass().isArray()) {
                continue;
            }
            for (Field f : o.getClass().getDeclaredFields()) {
                if (!Modifier.isStatic(f.getModifiers()) && !f.getType().isPrimitive()) {
                    f.setAccessible(true);
                    rest.add(f.get(o));
                }
            }
        }
        return all;
    }
}
