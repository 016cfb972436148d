import java.io.StringWriter;
import java.io.Writer;
import java.net.URI;
import java.nio.file.Files;
import java.nio.file.Path;
import java.util.ArrayList;
import java.util.List;
import java.util.concurrent.ExecutorService;
import java.util.concurrent.Executors;
import java.util.concurrent.Future;
import java.util.regex.Matcher;
import java.util.regex.Pattern;
import javax.tools.JavaCompiler;
import javax.tools.JavaFileObject;
import javax.tools.SimpleJavaFileObject;
import javax.tools.ToolProvider;

/**
 * Breaks the class in one small place after another, runs tests on each broken class, and prints those that no test
 * finds. It takes minutes, so .ci/run leaves it out; .ci/mutants runs it.
 * Arguments: the source, the folder of the compiled tests, the tests with commas between.
 */
final class Mutants {
    private static final String[][] SWAPS = {{" < ", " <= ", " > "}, {" <= ", " < "}, {" > ", " >= ", " < "},
        {" >= ", " > "}, {" == ", " != "}, {" != ", " == "}, {" && ", " || "}, {" \\|\\| ", " && "}, {" \\+ ", " - "},
        {" - ", " + "}, {" \\* ", " + "}, {" / ", " * "}, {" % ", " * "}, {" \\+= ", " -= ", " = "}, {"\\+\\+", "--"},
        {"--", "++"}, {"Math\\.max", "Math.min"}, {"Math\\.min", "Math.max"}, {"Math\\.abs", ""}, {"\\btrue\\b", "false"},
        {"\\bfalse\\b", "true"}, {"new IllegalArgument\\w+", "new IllegalStateException", "new IndexOutOfBoundsException"},
        {"new IllegalState\\w+", "new IllegalArgumentException", "new IndexOutOfBoundsException"},
        {"new Index\\w+", "new IllegalStateException", "new IllegalArgumentException"},
        {"(?<![\\w.])[0-9]+L?\\b", "($0 + 1)", "($0 - 1)"},
        {"\\b[A-Z][A-Z]+(_[A-Z]+)*\\b(?! =)", "($0 + 1)", "($0 - 1)"}, {"(?<=return )[^;\n]+(?=;)", "$0 + 1"}};

    private static final String STATEMENT = "(?<=\n) +(?!return|throw|break|continue|private|public|final|case|default|int "
            + "|long |boolean |State |Gear |Line )[^\n{}]*;(?=\n)";

    private record Mutant(int line, String what, String source) {
    }

    private final String source;
    private final String code;
    private final List<Mutant> all = new ArrayList<>();

    private Mutants(String source) {
        this.source = source;
        StringBuilder masked = new StringBuilder(source);
        Matcher m = Pattern.compile("(?s)/\\*.*?\\*/|//[^\n]*|\"[^\"]*\"").matcher(source);
        while (m.find()) {
            for (int i = m.start(); i < m.end(); i++) {
                masked.setCharAt(i, source.charAt(i) == '\n' ? '\n' : ' ');
            }
        }
        code = masked.toString();
    }

    public static void main(String[] args) throws Exception {
        Mutants mutants = new Mutants(Files.readString(Path.of(args[0])));
        mutants.make();
        mutants.run(args[1], args[2].split(","));
    }

    private void add(int from, int to, String put) {
        int line = (int) source.substring(0, from).chars().filter(c -> c == '\n').count() + 1;
        String what = source.substring(from, to).trim() + " -> " + put.trim();
        all.add(new Mutant(line, what, source.substring(0, from) + put + source.substring(to)));
    }

    private void make() {
        for (String[] swap : SWAPS) {
            Matcher m = Pattern.compile(swap[0]).matcher(code);
            while (m.find()) {
                for (int i = 1; i < swap.length; i++) {
                    add(m.start(), m.end(), swap[i].replace("$0", m.group()));
                }
            }
        }
        Matcher statement = Pattern.compile(STATEMENT).matcher(code);
        while (statement.find()) {
            add(statement.start(), statement.end(), ";");
        }
        Matcher condition = Pattern.compile("\\bif \\(").matcher(code);
        while (condition.find()) {
            int to = condition.end();
            for (int depth = 1; depth > 0; to++) {
                depth += code.charAt(to) == '(' ? 1 : code.charAt(to) == ')' ? -1 : 0;
            }
            add(condition.end(), to - 1, "NONE == -1");
            add(condition.end(), to - 1, "NONE != -1");
        }
    }

    private void run(String tests, String[] mains) throws Exception {
        Path work = Files.createTempDirectory("mutants");
        ExecutorService pool = Executors.newFixedThreadPool(Runtime.getRuntime().availableProcessors());
        List<Future<String>> results = new ArrayList<>();
        for (int i = 0; i < all.size(); i++) {
            Mutant mutant = all.get(i);
            Path folder = work.resolve("m" + i);
            results.add(pool.submit(() -> outcome(mutant, folder, tests, mains)));
        }
        int found = 0;
        int lived = 0;
        for (int i = 0; i < all.size(); i++) {
            String outcome = results.get(i).get();
            found += outcome.equals("found") ? 1 : 0;
            if (outcome.equals("lived")) {
                lived++;
                System.out.println("line " + all.get(i).line + ": " + all.get(i).what);
            }
        }
        pool.shutdown();
        System.out.println("broken classes: " + found + " found by a test, " + lived + " not found");
    }

    private static String outcome(Mutant mutant, Path folder, String tests, String[] mains) throws Exception {
        Files.createDirectories(folder);
        JavaFileObject file = new SimpleJavaFileObject(URI.create("string:///GearGauge.java"), JavaFileObject.Kind.SOURCE) {
            @Override
            public CharSequence getCharContent(boolean ignore) {
                return mutant.source;
            }
        };
        JavaCompiler compiler = ToolProvider.getSystemJavaCompiler();
        Writer sink = new StringWriter();
        if (!compiler.getTask(sink, null, d -> { }, List.of("-d", folder.toString()), null, List.of(file)).call()) {
            return "does not compile";
        }
        for (String main : mains) {
            Process run = new ProcessBuilder("timeout", "60", "java", "-XX:TieredStopAtLevel=1", "-XX:+UseSerialGC", "-cp",
                    folder + ":" + tests, main).redirectErrorStream(true)
                    .redirectOutput(ProcessBuilder.Redirect.DISCARD).start();
            if (run.waitFor() != 0) {
                return "found";
            }
        }
        return "lived";
    }
}
