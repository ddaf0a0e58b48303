import java.io.IOException;
import java.lang.reflect.Method;
import java.lang.reflect.Modifier;
import java.net.URL;
import java.net.URLClassLoader;
import java.nio.file.Files;
import java.nio.file.Path;
import java.util.ArrayList;
import java.util.List;
import java.util.Set;
import java.util.TreeSet;
import java.util.regex.Matcher;
import java.util.regex.Pattern;
import java.util.stream.Collectors;
import java.util.stream.Stream;

/** The calls that README.md shows answer what it says, and its list of tests is whole. */
public final class ReadmeTest {
    private static final Path README = Path.of("README.md");
    private static final Path TESTS = Path.of("src/test/java");
    private static final Path MAIN = Path.of("src/main/java/AdvanceBook.java");
    // int ann = book.man(10);     // 0: what that means
    private static final Pattern CALL = Pattern.compile("((?:int|boolean) (\\w+) = )?(.*\\));\\s+// ([^\\s:]+)(:.*)?");

    /** A call that README.md shows, with the answer behind it. */
    private record Shown(int line, String name, String call, String answer) {
    }

    private final List<Shown> shown = new ArrayList<>();
    private final List<String> methods = new ArrayList<>();

    public static void main(String[] args) throws Exception {
        Due.says("README.md");
        ReadmeTest test = new ReadmeTest();
        List<String> lines = Files.readAllLines(README);
        test.readBlocks(lines);
        test.showsTheWholeFace();
        test.answersAsItSays();
        namesAllTests(String.join("\n", lines));
        Due.finish("ReadmeTest");
    }

    // ---- what it shows

    private void readBlocks(List<String> lines) {
        boolean inBlock = false;
        boolean inMethod = false;
        for (int at = 0; at < lines.size(); at++) {
            String line = lines.get(at);
            if (line.startsWith("```")) {
                inBlock = line.equals("```java");
                inMethod = inBlock && lines.get(at + 1).startsWith("static ");
            } else if (inMethod) {
                methods.add(line);
            } else if (inBlock && !line.equals("AdvanceBook book = new AdvanceBook();")) {
                readCall(at + 1, line);
            }
        }
    }

    private void readCall(int number, String line) {
        Matcher call = CALL.matcher(line);
        boolean whole = call.matches();
        Due.due("line " + number + " shows a call and its answer: " + line, true, whole);
        if (whole) {
            shown.add(new Shown(number, call.group(2), call.group(3), call.group(4)));
        }
    }

    private void showsTheWholeFace() {
        Set<String> called = shown.stream().map(one -> one.call.replaceAll("\\(.*", "")).collect(Collectors.toSet());
        for (Method method : AdvanceBook.class.getDeclaredMethods()) {
            if (Modifier.isPublic(method.getModifiers())) {
                Due.due("shows " + method.getName(), true, called.contains("book." + method.getName()));
            }
        }
        Due.due("no more calls than are promised", true, shown.size() < Counted.MOST_CALLS);
    }

    // ---- what they answer

    private void answersAsItSays() throws Exception {
        Path folder = Files.createTempDirectory("readme");
        try {
            Path source = folder.resolve("ReadmeCalls.java");
            Files.writeString(source, program());
            boolean compiled = compile(folder, source);
            Due.due("the calls compile", true, compiled);
            if (compiled) {
                compare(run(folder));
            }
        } finally {
            remove(folder);
        }
    }

    private String program() {
        StringBuilder text = new StringBuilder("import java.util.*;\npublic final class ReadmeCalls {\n");
        methods.forEach(line -> text.append(line).append('\n'));
        text.append("public static List<Object> answers() {\nList<Object> answers = new ArrayList<>();\n");
        text.append("AdvanceBook book = new AdvanceBook();\n");
        for (Shown one : shown) {
            if (one.name == null) {
                text.append("try { answers.add(").append(one.call).append("); }\n");
                text.append("catch (RuntimeException e) { answers.add(e.getClass().getSimpleName()); }\n");
            } else {
                text.append("var ").append(one.name).append(" = ").append(one.call).append(";\n");
                text.append("answers.add(").append(one.name).append(");\n");
            }
        }
        return text.append("return answers;\n}\n}\n").toString();
    }

    private static boolean compile(Path folder, Path source) throws IOException, InterruptedException {
        String classPath = System.getProperty("java.class.path");
        return new ProcessBuilder("javac", "--release", "17", "-cp", classPath, "-d", folder.toString(), source.toString())
                .inheritIO().start().waitFor() == 0;
    }

    private static List<?> run(Path folder) throws Exception {
        try (URLClassLoader loader = new URLClassLoader(new URL[] {folder.toUri().toURL()})) {
            return (List<?>) loader.loadClass("ReadmeCalls").getMethod("answers").invoke(null);
        }
    }

    private void compare(List<?> answers) {
        Due.due("how many answers", shown.size(), answers.size());
        for (int at = 0; at < Math.min(shown.size(), answers.size()); at++) {
            Shown one = shown.get(at);
            String got = String.valueOf(answers.get(at));
            Due.due("line " + one.line + ", " + one.call + " answers " + got + ", says " + one.answer, true,
                    got.equals(asPrinted(one.answer)));
        }
    }

    private static String asPrinted(String answer) {
        return answer.equals("NONE") ? String.valueOf(AdvanceBook.NONE)
                : answer.equals("Integer.MIN_VALUE") ? String.valueOf(Integer.MIN_VALUE) : answer;
    }

    private static void remove(Path folder) throws IOException {
        try (Stream<Path> files = Files.list(folder)) {
            for (Path file : files.collect(Collectors.toList())) {
                Files.delete(file);
            }
        }
        Files.delete(folder);
    }

    // ---- how to run the tests

    private static void namesAllTests(String text) throws IOException {
        Due.due("names .ci/run", true, text.contains("`.ci/run`"));
        Due.due(".ci/run can be run", true, Files.isExecutable(Path.of(".ci/run")));
        Due.due("names the class", true, text.contains("`" + MAIN + "`"));
        Due.due("has the class", true, Files.exists(MAIN));
        Set<String> named = new TreeSet<>();
        Matcher name = Pattern.compile("`(?:src/test/java/)?(\\w+\\.java)`").matcher(text);
        while (name.find()) {
            named.add(name.group(1));
        }
        Set<String> there = new TreeSet<>();
        try (Stream<Path> files = Files.list(TESTS)) {
            files.forEach(file -> there.add(file.getFileName().toString()));
        }
        for (String file : there) {
            Due.due("names " + file, true, named.contains(file));
        }
        for (String file : named) {
            Due.due("has " + file, true, there.contains(file));
        }
    }
}
