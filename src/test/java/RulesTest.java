import java.lang.reflect.Field;
import java.lang.reflect.Method;
import java.lang.reflect.Modifier;
import java.nio.file.Files;
import java.nio.file.Path;
import java.util.ArrayList;
import java.util.Arrays;
import java.util.List;
import java.util.Set;
import java.util.regex.Matcher;
import java.util.regex.Pattern;
import java.util.stream.Collectors;

/** What can be seen of the rules of ../shared/LANGUAGE.md in the class and in its text. */
public final class RulesTest {
    private static final Path MAIN = Path.of("src/main/java/AdvanceBook.java");
    private static final int MOST_CLASSES = 12;
    private static final int MOST_FIELDS = 20;
    private static final int MOST_PARAMETERS = 7;
    private static final int MOST_LINES = 60;
    private static final Set<Class<?>> CONSTANTS = Set.of(int.class, long.class, boolean.class, char.class,
            String.class, int[].class, long[].class, char[].class, byte[].class);

    public static void main(String[] args) throws Exception {
        List<Class<?>> classes = new ArrayList<>(Arrays.asList(AdvanceBook.class.getDeclaredClasses()));
        classesInside(classes);
        classes.add(AdvanceBook.class);
        Due.says("Rule 11");
        no("more than twelve classes", classes.size() > MOST_CLASSES);
        for (Class<?> one : classes) {
            fieldsOf(one);
            methodsOf(one);
        }
        String text = Files.readString(MAIN);
        Due.says("Rules 3 and 4");
        no("signs beyond 127", text.chars().anyMatch(sign -> sign > 127));
        String code = text.replaceAll("(?s)/\\*.*?\\*/", "").replaceAll("//[^\n]*", "");
        libraryOf(code);
        wordsOf(code);
        objectsOf(code);
        lengthsOf(code);
        Due.finish("RulesTest");
    }

    private static void no(String what, boolean found) {
        Due.due("no " + what, false, found);
    }

    private static Set<String> face() {
        return Arrays.stream(AdvanceBook.class.getDeclaredMethods())
                .filter(method -> Modifier.isPublic(method.getModifiers()))
                .map(Method::getName).collect(Collectors.toSet());
    }

    private static void classesInside(List<Class<?>> inside) {
        Due.says("Rule 1: the classes inside it, which are private or package-visible and static");
        for (Class<?> one : inside) {
            int modifiers = one.getModifiers();
            no(one + " that is public or protected", Modifier.isPublic(modifiers) || Modifier.isProtected(modifiers));
            no(one + " that is not static", !Modifier.isStatic(modifiers));
            no("classes inside " + one, one.getDeclaredClasses().length > 0);
        }
        Due.says("Rule 1: No private method bears the name of a public one.");
        for (Class<?> one : inside) {
            for (Method method : one.getDeclaredMethods()) {
                no(one + " with " + method.getName(), face().contains(method.getName()));
            }
        }
    }

    private static void fieldsOf(Class<?> one) {
        int fields = 0;
        for (Field field : one.getDeclaredFields()) {
            boolean isStatic = Modifier.isStatic(field.getModifiers());
            fields += isStatic ? 0 : 1;
            Due.says("Rule 5");
            no("changing " + field, isStatic && !Modifier.isFinal(field.getModifiers()));
            no("constant of a kind as " + field, isStatic && !CONSTANTS.contains(field.getType()));
        }
        Due.says("Rule 11");
        no("more than twenty fields in " + one, fields > MOST_FIELDS);
    }

    private static void methodsOf(Class<?> one) {
        Due.says("Rule 11: A method takes at most seven parameters.");
        for (Method method : one.getDeclaredMethods()) {
            no("more than seven in " + method, method.getParameterCount() > MOST_PARAMETERS);
        }
    }

    private static List<String> found(String pattern, String code) {
        List<String> all = new ArrayList<>();
        Matcher matcher = Pattern.compile(pattern, Pattern.MULTILINE).matcher(code);
        while (matcher.find()) {
            all.add(matcher.group(1));
        }
        return all;
    }

    private static void libraryOf(String code) {
        Due.says("Rule 4: The library: only what stands here.");
        Set<String> classes = Set.of("java.util.Arrays", "java.util.List", "java.util.ArrayList",
                "java.util.Iterator", "java.util.NoSuchElementException");
        for (String name : found("^import ([^;]*);", code)) {
            no("import of " + name, !classes.contains(name));
        }
        Set<String> calls = Set.of("Arrays.fill", "Arrays.copyOf", "Arrays.copyOfRange", "System.arraycopy");
        for (String name : found("\\b((?:Arrays|System)\\.\\w+)", code)) {
            no(name, !calls.contains(name));
        }
        no("Exact of Math", code.contains("Exact("));
        no("names of other packages", Pattern.compile("\\b(java|javax|jdk|sun)\\.(?!util\\.)").matcher(code).find());
    }

    private static void wordsOf(String code) {
        Due.says("Rules 2 and 6");
        for (String sign : new String[] {"->", "::", "package "}) {
            no(sign, code.contains(sign));
        }
        // Without try the class can't answer a call by catching what the machine throws.
        for (String word : new String[] {"try", "catch", "finally", "synchronized", "assert", "hashCode", "toString"}) {
            no(word, Pattern.compile("\\b" + word + "\\b").matcher(code).find());
        }
        Due.says("Rule 6: throw new E() or throw new E(\"a written text\")");
        Set<String> written = Set.of("IndexOutOfBoundsException", "NoSuchElementException");
        for (String thrown : found("\\bthrow (.*)$", code)) {
            Matcher one = Pattern.compile("new (\\w+)\\((\"[^\"]*\")?\\);").matcher(thrown);
            no("throw " + thrown, !one.matches() || !written.contains(one.group(1)));
        }
    }

    private static void objectsOf(String code) {
        Due.says("The room: rows are made in constructors and used again");
        for (String line : found("^(.*\\bnew\\b.*)$", code)) {
            boolean asField = line.matches("\\s+private (final )?[\\w\\[\\]]+ \\w+ = new .*;");
            no("object made by a call:" + line, !asField && !line.contains("throw new "));
        }
    }

    private static void lengthsOf(String code) {
        Due.says("Rule 11: Methods stay short (some sixty lines)");
        String[] lines = code.split("\n");
        for (int at = 0; at < lines.length; at++) {
            if (!lines[at].matches(" +[^=]*\\(.*\\).*\\{") || lines[at].matches(" +(\\} )?(if|else|for|while|switch).*")) {
                continue;
            }
            String end = lines[at].replaceAll("\\S.*", "") + "}";
            int last = at;
            while (last < lines.length && !lines[last].equals(end)) {
                last++;
            }
            no("more than sixty lines:" + lines[at], last - at + 1 > MOST_LINES);
        }
    }
}
