import java.io.ByteArrayOutputStream;
import java.io.File;
import java.io.IOException;
import java.io.PrintStream;
import java.lang.reflect.Method;
import java.lang.reflect.Modifier;
import java.net.URL;
import java.net.URLClassLoader;
import java.nio.file.Files;
import java.nio.file.Path;
import java.util.ArrayList;
import java.util.List;
import java.util.regex.Matcher;
import java.util.regex.Pattern;

/**
 * README.md: its first program prints what the page says, each call in its examples answers what stands behind it,
 * and each call of the face and each test stands there. Runs in the project's folder.
 */
public final class ReadmeTest {
    private static final Pattern BLOCK = Pattern.compile("(?s)```(java|text)\n(.*?)```");
    private static final Pattern ANSWERED =
            Pattern.compile("(x\\.\\w+\\(.*\\)); +// (throws \\w+|-?[0-9]+(?:\\.[0-9]+)?)(?:[,:] .+)?");
    private static final Path FOLDER = folder();

    public static void main(String[] args) throws Exception {
        String page = Files.readString(Path.of("README.md"));
        List<String> programs = blocks(page, "java");
        firstProgram(programs.get(0), blocks(page, "text").get(0));
        List<String> examples = programs.subList(1, programs.size());
        examples(examples);
        completeness(page, String.join("", examples));
        remove(FOLDER.toFile());
        Due.verdict("ReadmeTest");
    }

    private static Path folder() {
        try {
            return Files.createTempDirectory("readme");
        } catch (IOException e) {
            throw new IllegalStateException(e);
        }
    }

    private static void remove(File file) {
        File[] inside = file.listFiles();
        for (int i = 0; inside != null && i < inside.length; i++) {
            remove(inside[i]);
        }
        Due.is("the folder of the test can be removed", file.delete(), true);
    }

    private static List<String> blocks(String page, String language) {
        List<String> found = new ArrayList<>();
        Matcher m = BLOCK.matcher(page);
        while (m.find()) {
            if (m.group(1).equals(language)) {
                found.add(m.group(2));
            }
        }
        return found;
    }

    private static void firstProgram(String program, String printed) throws Exception {
        Class<?> show = compiled("Show", program);
        PrintStream before = System.out;
        ByteArrayOutputStream got = new ByteArrayOutputStream();
        System.setOut(new PrintStream(got, true, "UTF-8"));
        try {
            show.getMethod("main", String[].class).invoke(null, (Object) new String[0]);
        } finally {
            System.setOut(before);
        }
        Due.is("the first program prints", got.toString("UTF-8").replace(System.lineSeparator(), "\n"), printed);
    }

    /** The examples become one class, which answers the outcome of each of their calls. */
    private static void examples(List<String> examples) throws Exception {
        StringBuilder code = new StringBuilder("import java.util.*; import java.util.function.Supplier;\n"
                + "public class Calls {\n"
                + "static void put(List<String> all, Supplier<Object> call) {\n"
                + "try { all.add(String.valueOf(call.get())); }\n"
                + "catch (RuntimeException e) { all.add(\"throws \" + e.getClass().getSimpleName()); } }\n");
        List<String> calls = new ArrayList<>();
        List<String> wanted = new ArrayList<>();
        for (int i = 0; i < examples.size(); i++) {
            code.append("static void example").append(i).append("(List<String> all) {\n");
            for (String line : examples.get(i).split("\n")) {
                Matcher m = ANSWERED.matcher(line);
                if (m.matches()) {
                    code.append("put(all, () -> ").append(m.group(1)).append(");\n");
                    calls.add("example " + i + ": " + m.group(1));
                    wanted.add(m.group(2));
                } else {
                    boolean known = line.equals("GearGauge x = new GearGauge();") || line.startsWith("for (");
                    Due.is("the line has the form of a call with its answer: " + line, known, true);
                    code.append(line).append("\n");
                }
            }
            code.append("}\n");
        }
        code.append("public static void all(List<String> all) {\n");
        for (int i = 0; i < examples.size(); i++) {
            code.append("example").append(i).append("(all);\n");
        }
        code.append("} }\n");
        List<String> got = new ArrayList<>();
        compiled("Calls", code.toString()).getMethod("all", List.class).invoke(null, got);
        Due.is("calls in the examples", got.size(), calls.size());
        for (int i = 0; i < calls.size(); i++) {
            Due.is(calls.get(i), got.get(i), wanted.get(i));
        }
    }

    private static Class<?> compiled(String name, String code) throws Exception {
        Path file = FOLDER.resolve(name + ".java");
        Files.writeString(file, code);
        String here = System.getProperty("java.class.path");
        Process javac = new ProcessBuilder("javac", "-cp", here, "-d", FOLDER.toString(), file.toString())
                .inheritIO().start();
        Due.is(name + " compiles", javac.waitFor(), 0);
        URLClassLoader loader =
                new URLClassLoader(new URL[] {FOLDER.toUri().toURL()}, ReadmeTest.class.getClassLoader());
        return loader.loadClass(name);
    }

    private static void completeness(String page, String examples) {
        for (Method m : GearGauge.class.getDeclaredMethods()) {
            if (Modifier.isPublic(m.getModifiers())) {
                Due.is("an example calls " + m.getName(), examples.contains("x." + m.getName() + "("), true);
            }
        }
        String[] tests = new File("src/test/java").list((folder, name) -> name.endsWith("Test.java"));
        Due.is("tests are found", tests != null && tests.length > 0, true);
        for (int i = 0; tests != null && i < tests.length; i++) {
            String test = tests[i].replace(".java", "");
            Due.is("the page names " + test, page.contains("| `" + test + "` |"), true);
        }
    }
}
