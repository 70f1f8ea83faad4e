import java.io.IOException;
import java.lang.reflect.Method;
import java.lang.reflect.Modifier;
import java.nio.charset.StandardCharsets;
import java.nio.file.Files;
import java.nio.file.Path;
import java.util.ArrayList;
import java.util.List;
import java.util.TreeSet;
import java.util.regex.Matcher;
import java.util.regex.Pattern;

/** What of ../shared/LANGUAGE.md can be seen from the source and from the class itself. */
public final class LanguageTest {
    private static final Check CHECK = new Check("LanguageTest");
    private static final String[] NEVER = {"->", "::", "\\bcatch\\b", "\\bfinally\\b", "\\bsynchronized\\b", "\\bassert\\b",
        "\\binstanceof\\b", "\\bMath\\.\\w+Exact\\b", "\\bSystem\\.(?!arraycopy\\b)", "\\bObject\\b", "\\bhashCode\\b",
        "\\bstatic \\{", "\\bdouble\\b", "\\bfloat\\b", "\\bThread\\b", "\\bRandom\\b", "[^\\x00-\\x7f]"};

    private LanguageTest() {
    }

    public static void main(String[] args) throws IOException {
        String source = new String(Files.readAllBytes(Path.of(args[0])), StandardCharsets.UTF_8);
        words(source);
        lengths(source);
        members();
        nested();
        CHECK.end();
    }

    private static int count(String pattern, String source) {
        Matcher matcher = Pattern.compile(pattern).matcher(source);
        int count = 0;
        while (matcher.find()) {
            count++;
        }
        return count;
    }

    private static void words(String source) {
        for (String never : NEVER) {
            CHECK.same("rules 3 to 6: " + never, count(never, source), 0);
        }
        TreeSet<String> imports = new TreeSet<>();
        Matcher matcher = Pattern.compile("(?m)^import ([^;]*);").matcher(source);
        while (matcher.find()) {
            imports.add(matcher.group(1));
        }
        CHECK.same("rule 4: imports " + imports,
                imports.equals(new TreeSet<>(List.of("java.util.Arrays", "java.util.NoSuchElementException"))), true);
        CHECK.same("rule 6: throws", count("\\bthrow\\b", source), count("throw new NoSuchElementException\\(\\);", source));
        CHECK.same("rule 11: classes", count("\\bclass \\w+ ", source) <= 12, true);
    }

    /** A method's body goes from its head to the bracket under the head's first letter. */
    private static void lengths(String source) {
        String[] lines = source.split("\n");
        for (int i = 0; i < lines.length; i++) {
            if (!lines[i].matches(" {4,8}[\\w\\[\\] ]+\\([^;]*\\{")) {
                continue;
            }
            String indent = lines[i].replaceAll("\\S.*", "");
            int end = i;
            while (end < lines.length && !lines[end].equals(indent + "}")) {
                end++;
            }
            CHECK.same("rule 11, some sixty lines: " + lines[i], end - i <= 60, true);
            String head = lines[i].substring(lines[i].indexOf('(') + 1);
            CHECK.same("rule 11, seven parameters: " + lines[i], head.split(",").length <= 7, true);
        }
    }

    private static void members() {
        List<String> names = new ArrayList<>();
        for (Method method : ScentCourt.class.getDeclaredMethods()) {
            int modifiers = method.getModifiers();
            CHECK.same("rule 1: " + method, Modifier.isPublic(modifiers) || Modifier.isPrivate(modifiers), true);
            if (Modifier.isPublic(modifiers)) {
                names.add(method.getName());
            }
        }
        for (Method method : ScentCourt.class.getDeclaredMethods()) {
            if (Modifier.isPrivate(method.getModifiers())) {
                CHECK.same("rule 1, a public name: " + method, names.contains(method.getName()), false);
            }
        }
        for (Class<?> inside : ScentCourt.class.getDeclaredClasses()) {
            for (Method method : inside.getDeclaredMethods()) {
                CHECK.same("rule 1, a public name: " + method, names.contains(method.getName()), false);
            }
        }
        for (java.lang.reflect.Field field : ScentCourt.class.getDeclaredFields()) {
            boolean isNone = field.getName().equals("NONE");
            CHECK.same("rule 1: " + field, Modifier.isPrivate(field.getModifiers()), !isNone);
            CHECK.same("rule 5: " + field,
                    Modifier.isStatic(field.getModifiers()) && !Modifier.isFinal(field.getModifiers()), false);
        }
        CHECK.same("rule 1: final", Modifier.isFinal(ScentCourt.class.getModifiers()), true);
        CHECK.same("rule 1: constructors", ScentCourt.class.getDeclaredConstructors().length, 1);
    }

    private static void nested() {
        for (Class<?> inside : ScentCourt.class.getDeclaredClasses()) {
            CHECK.same("rule 2: " + inside, Modifier.isStatic(inside.getModifiers()), true);
            CHECK.same("rule 2: " + inside, Modifier.isPublic(inside.getModifiers()), false);
            CHECK.same("rule 11, some twenty fields: " + inside, inside.getDeclaredFields().length <= 20, true);
            for (Method method : inside.getDeclaredMethods()) {
                CHECK.same("rule 1: " + method, Modifier.isPublic(method.getModifiers()), false);
            }
        }
        int fields = 0;
        for (java.lang.reflect.Field field : ScentCourt.class.getDeclaredFields()) {
            fields += Modifier.isStatic(field.getModifiers()) ? 0 : 1;
        }
        CHECK.same("rule 11, some twenty fields: " + fields, fields <= 20, true);
    }
}
