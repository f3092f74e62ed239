import java.io.IOException;
import java.lang.reflect.Executable;
import java.lang.reflect.Field;
import java.lang.reflect.Modifier;
import java.nio.file.Files;
import java.nio.file.Path;
import java.util.ArrayList;
import java.util.List;
import java.util.Set;
import java.util.regex.Pattern;

/** The rules of LANGUAGE.md that can be seen from the source's words or from the compiled classes. */
public final class LanguageTest {
    private static final Path MAIN = Path.of("src/main/java");
    private static final String[] FORBIDDEN = {
        "\\bpackage\\b", "\\bimport\\b", "\\bthrows?\\b", "\\btry\\b", "\\bcatch\\b", "\\bfinally\\b",
        "\\bsynchronized\\b", "\\bvolatile\\b", "\\bassert\\b", "\\bprotected\\b", "\\bthread\\b", "->", "::",
        "\\bObject\\b", "\\bThread\\b", "\\bSystem\\b", "Exact\\b", "\\bequals\\b", "\\bhashCode\\b",
        "\\btoString\\b", "\\bstatic\\s*\\{", "\\bnew\\s+\\w+\\([^;]*\\)\\s*\\{"};
    private static final Set<Class<?>> CONSTANT_TYPES =
            Set.of(int.class, long.class, boolean.class, char.class, String.class);

    public static void main(String[] args) throws IOException {
        Due due = new Due();
        String source = Files.readString(MAIN.resolve("ShrinkLayout.java"));
        try (var files = Files.walk(MAIN)) {
            due.is("files of the program", files.filter(Files::isRegularFile).count(), 1);
        }
        due.is("the source is plain ASCII", source.chars().allMatch(c -> c < 128), true);
        String code = source.replaceAll("(?s)/\\*.*?\\*/", " ").replaceAll("//[^\n]*", " ");
        for (String word : FORBIDDEN) {
            due.is("the program has " + word, Pattern.compile(word).matcher(code).find(), false);
        }
        methodsAreShort(due, source);
        List<Class<?>> classes = new ArrayList<>(List.of(ShrinkLayout.class.getDeclaredClasses()));
        for (Class<?> inside : classes) {
            int flags = inside.getModifiers();
            due.is(inside + " is static", Modifier.isStatic(flags), true);
            due.is(inside + " is public", Modifier.isPublic(flags) || Modifier.isProtected(flags), false);
        }
        classes.add(ShrinkLayout.class);
        due.is("at most twelve classes", classes.size() <= 12, true);
        for (Class<?> one : classes) {
            fieldsAreAsRuled(due, one);
            parametersAreFew(due, one);
        }
        due.end();
    }

    private static void fieldsAreAsRuled(Due due, Class<?> one) {
        int own = 0;
        for (Field field : one.getDeclaredFields()) {
            if (Modifier.isStatic(field.getModifiers())) {
                due.is(field + " is final", Modifier.isFinal(field.getModifiers()), true);
                due.is(field + " is a constant", CONSTANT_TYPES.contains(field.getType()), true);
            } else {
                own++;
            }
        }
        due.is(one + " has at most twenty fields", own <= 20, true);
    }

    private static void parametersAreFew(Due due, Class<?> one) {
        List<Executable> all = new ArrayList<>(List.of(one.getDeclaredMethods()));
        all.addAll(List.of(one.getDeclaredConstructors()));
        for (Executable each : all) {
            due.is(each + " takes at most seven", each.getParameterCount() <= 7, true);
        }
    }

    /** A block ends at the first brace that stands as deep as the line that opened it. */
    private static void methodsAreShort(Due due, String source) {
        String[] lines = source.split("\n");
        for (int i = 0; i < lines.length; i++) {
            if (lines[i].matches("( {4}| {8})\\w.*\\) \\{")) {
                String closing = " ".repeat(lines[i].indexOf(lines[i].strip())) + "}";
                int end = i;
                while (end < lines.length && !lines[end].equals(closing) && !lines[end].startsWith(closing + " ")) {
                    end++;
                }
                due.is(lines[i].strip() + " has at most sixty lines", end - i <= 60, true);
            }
        }
    }
}
