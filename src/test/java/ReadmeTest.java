import java.io.IOException;
import java.lang.reflect.Method;
import java.lang.reflect.Modifier;
import java.net.URL;
import java.net.URLClassLoader;
import java.nio.file.Files;
import java.nio.file.Path;
import java.util.ArrayList;
import java.util.List;
import java.util.function.Supplier;
import java.util.regex.Matcher;
import java.util.regex.Pattern;
import java.util.stream.Stream;
import javax.tools.ToolProvider;

/** README.md: the example is compiled and run, and its answers held against those that stand behind the calls. */
public final class ReadmeTest {
    private static final Checks CHECKS = new Checks("ReadmeTest");
    private static final String FIRST_LINE = "    FretSchool school = new FretSchool();";
    private static final Pattern ANSWERED = Pattern.compile("    (?:int (\\w+) = )?(school\\..*); +// (-?\\d+): .*");

    public static void main(String[] args) throws Exception {
        List<String> readme = Files.readAllLines(Path.of("README.md"));
        tableHasEachCall(String.join("\n", readme));
        exampleAnswersAsItSays(example(readme));
        CHECKS.end();
    }

    private static void tableHasEachCall(String readme) {
        for (Method method : FretSchool.class.getDeclaredMethods()) {
            if (Modifier.isPublic(method.getModifiers())) {
                String arguments = method.getParameterCount() == 0 ? ""
                        : "\\w+(, \\w+){" + (method.getParameterCount() - 1) + "}";
                if (!Pattern.compile("`" + method.getName() + "\\(" + arguments + "\\)`").matcher(readme).find()) {
                    CHECKS.fail("README.md does not tell of " + method.getName());
                }
            }
        }
    }

    private static List<Matcher> example(List<String> readme) {
        List<Matcher> calls = new ArrayList<>();
        int first = readme.indexOf(FIRST_LINE);
        for (int line = first + 1; first >= 0 && readme.get(line).startsWith("    "); line++) {
            Matcher call = ANSWERED.matcher(readme.get(line));
            if (call.matches()) {
                calls.add(call);
            } else {
                CHECKS.fail("README.md tells no answer in: " + readme.get(line));
            }
        }
        if (calls.isEmpty()) {
            CHECKS.fail("README.md has no example");
        }
        return calls;
    }

    private static void exampleAnswersAsItSays(List<Matcher> calls) throws Exception {
        StringBuilder body = new StringBuilder();
        for (int i = 0; i < calls.size(); i++) {
            String name = calls.get(i).group(1) == null ? "answer" + i : calls.get(i).group(1);
            body.append("int ").append(name).append(" = ").append(calls.get(i).group(2)).append(";\n");
            body.append("answers[").append(i).append("] = ").append(name).append(";\n");
        }
        int[] answers = run(calls.size(), body);
        for (int i = 0; i < calls.size(); i++) {
            CHECKS.same("README.md: " + calls.get(i).group(2), answers[i], Integer.parseInt(calls.get(i).group(3)));
        }
    }

    private static int[] run(int count, CharSequence body) throws Exception {
        String program = "public final class Example implements java.util.function.Supplier<int[]> {\n"
                + "public int[] get() {\n" + FIRST_LINE + "\nint[] answers = new int[" + count + "];\n" + body
                + "return answers;\n}\n}\n";
        Path folder = Files.createTempDirectory("readme");
        try {
            Path file = Files.writeString(folder.resolve("Example.java"), program);
            int code = ToolProvider.getSystemJavaCompiler().run(null, null, null, "-d", folder.toString(),
                    "-cp", System.getProperty("java.class.path"), file.toString());
            CHECKS.same("README.md: the compiler on the example", code, 0);
            return code == 0 ? load(folder).get() : new int[count];
        } finally {
            remove(folder);
        }
    }

    @SuppressWarnings("unchecked")
    private static Supplier<int[]> load(Path folder) throws Exception {
        try (URLClassLoader loader = new URLClassLoader(new URL[] {folder.toUri().toURL()})) {
            return (Supplier<int[]>) loader.loadClass("Example").getDeclaredConstructor().newInstance();
        }
    }

    private static void remove(Path folder) throws IOException {
        try (Stream<Path> files = Files.list(folder)) {
            for (Path file : files.toList()) {
                Files.delete(file);
            }
        }
        Files.delete(folder);
    }
}
