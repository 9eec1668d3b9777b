import java.io.File;
import java.lang.reflect.InvocationTargetException;
import java.lang.reflect.Method;
import java.lang.reflect.Modifier;
import java.net.URL;
import java.net.URLClassLoader;
import java.nio.file.Files;
import java.nio.file.Path;
import java.util.Comparator;
import java.util.List;
import java.util.regex.Matcher;
import java.util.regex.Pattern;
import java.util.spi.ToolProvider;
import java.util.stream.Collectors;
import java.util.stream.Stream;

/** README.md says how to use the class and how to run its tests: its examples run, and nothing is left out. */
public final class ReadmeTest {
    private static final Pattern BLOCK = Pattern.compile("(?s)```java\n(.*?)```");
    private static final Pattern ASKED = Pattern.compile("(\\w.*?);\\s*// (-?\\d+|NONE|Long\\.MIN_VALUE)(:.*)?");
    private static final Pattern MADE = Pattern.compile("OrderAlgebra x = new OrderAlgebra\\(\\);");

    private final StringBuilder members = new StringBuilder();
    private final StringBuilder runs = new StringBuilder();
    private int answers;
    private int wrong;

    private void complain(String what) {
        wrong++;
        System.out.println("README.md: " + what);
    }

    /** A block is a method to be used by others, or calls on a new object with their answers. */
    private void take(String block) {
        if (block.startsWith("/**") || block.startsWith("static ")) {
            members.append(block);
            return;
        }
        runs.append("{\n");
        for (String line : block.split("\n")) {
            Matcher asked = ASKED.matcher(line);
            if (asked.matches()) {
                answers++;
                runs.append("due(\"").append(asked.group(1).replace("\"", "\\\"")).append("\", ");
                runs.append(asked.group(1)).append(", ").append(asked.group(2)).append(");\n");
            } else if (MADE.matcher(line).matches()) {
                runs.append(line).append('\n');
            } else {
                complain("neither a new object nor a call with its answer: " + line);
            }
        }
        runs.append("}\n");
    }

    private String program() {
        return "public final class ReadmeRuns {\n"
                + "static final int NONE = OrderAlgebra.NONE;\n"
                + "static int wrong;\n"
                + "static void due(String call, long got, long want) {\n"
                + "if (got != want) { wrong++; System.out.println(\"README.md: \" + call + \" answered \" + got); }\n"
                + "}\n" + members + "public static int runAll() {\n" + runs + "return wrong;\n}\n}\n";
    }

    private void runExamples() throws Exception {
        Path folder = Files.createTempDirectory("readme");
        try {
            Path source = folder.resolve("ReadmeRuns.java");
            Files.writeString(source, program());
            File own = new File(ReadmeTest.class.getProtectionDomain().getCodeSource().getLocation().toURI());
            int code = ToolProvider.findFirst("javac").orElseThrow()
                    .run(System.out, System.out, "-cp", own.getPath(), "-d", folder.toString(), source.toString());
            if (code != 0) {
                complain("the examples do not compile");
                return;
            }
            try (URLClassLoader loader = new URLClassLoader(new URL[] {folder.toUri().toURL()})) {
                wrong += (Integer) loader.loadClass("ReadmeRuns").getMethod("runAll").invoke(null);
            } catch (InvocationTargetException thrown) {
                complain("an example throws " + thrown.getCause());
            }
        } finally {
            remove(folder);
        }
    }

    private static void remove(Path folder) throws java.io.IOException {
        List<Path> inside;
        try (Stream<Path> walk = Files.walk(folder)) {
            inside = walk.sorted(Comparator.reverseOrder()).collect(Collectors.toList());
        }
        for (Path path : inside) {
            Files.delete(path);
        }
    }

    private void nothingLeftOut(String text) {
        for (Method m : OrderAlgebra.class.getDeclaredMethods()) {
            String call = "x." + m.getName() + "(";
            if (Modifier.isPublic(m.getModifiers()) && !runs.toString().contains(call)) {
                complain("no example of " + m.getName());
            }
        }
        for (File file : new File("src/test/java").listFiles()) {
            String name = "`" + file.getName().replace(".java", "") + "`";
            if (!text.contains(name)) {
                complain(name + " is not told of");
            }
        }
        Matcher told = Pattern.compile("(?m)^- `(\\w+)`").matcher(text);
        while (told.find()) {
            if (!Files.exists(Path.of("src/test/java/" + told.group(1) + ".java"))) {
                complain("there is no test " + told.group(1));
            }
        }
    }

    public static void main(String[] args) throws Exception {
        ReadmeTest test = new ReadmeTest();
        String text = Files.readString(Path.of("README.md"));
        Matcher block = BLOCK.matcher(text);
        while (block.find()) {
            test.take(block.group(1));
        }
        test.runExamples();
        test.nothingLeftOut(text);
        if (test.answers == 0) {
            test.complain("no examples");
        }
        System.out.println(test.wrong == 0 ? "README.md holds" : test.wrong + " things in README.md do not hold");
        if (test.wrong != 0) {
            System.exit(1);
        }
    }
}
