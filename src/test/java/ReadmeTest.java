import java.io.File;
import java.lang.invoke.MethodHandles;
import java.lang.reflect.Method;
import java.lang.reflect.Modifier;
import java.nio.file.Files;
import java.nio.file.Path;
import java.util.ArrayList;
import java.util.List;
import java.util.regex.Matcher;
import java.util.regex.Pattern;

/**
 * The examples of README.md: they are compiled as they stand there, and each call must answer what
 * stands behind it. Each method of the face has an example.
 */
public final class ReadmeTest {
    private static final Pattern TOLD = Pattern.compile("(.*;) +// (throws )?([A-Za-z0-9-]+)(:.*)?");
    private static final Pattern KEPT = Pattern.compile("(int|boolean) (\\w+) = .*;");
    private static final String NAME = "ReadmeExamples";

    public static void main(String[] args) throws Exception {
        List<String> lines = Files.readAllLines(Path.of("README.md"));
        List<List<String>> blocks = blocksOf(lines);
        Check.note(blocks.size() > 1, "README.md has " + blocks.size() + " examples");
        eachCallHasOne(blocks);
        eachTestIsNamed(lines);
        run(sourceOf(blocks));
        Check.end();
    }

    private static List<List<String>> blocksOf(List<String> lines) {
        List<List<String>> blocks = new ArrayList<>();
        boolean in = false;
        for (String line : lines) {
            if (line.startsWith("```")) {
                in = line.equals("```java");
                if (in) {
                    blocks.add(new ArrayList<>());
                }
            } else if (in && !line.isBlank()) {
                blocks.get(blocks.size() - 1).add(line);
            }
        }
        return blocks;
    }

    private static void eachCallHasOne(List<List<String>> blocks) {
        for (Method method : Tagwranglery.class.getDeclaredMethods()) {
            String call = "archive." + method.getName() + "(";
            if (Modifier.isPublic(method.getModifiers())) {
                Check.note(blocks.stream().anyMatch(block -> block.stream().anyMatch(line -> line.contains(call))),
                        "README.md has no example of " + call);
            }
        }
    }

    private static void eachTestIsNamed(List<String> lines) {
        for (String file : new File("src/test/java").list()) {
            String row = "| `" + file.replace(".java", "") + "` | ";
            if (file.endsWith("Test.java")) {
                Check.note(lines.stream().anyMatch(line -> line.startsWith(row)), "README.md does not name " + file);
            }
        }
    }

    /** A block that begins with a method gives it to all; each other one is a method of its own. */
    private static String sourceOf(List<List<String>> blocks) {
        StringBuilder methods = new StringBuilder();
        StringBuilder calls = new StringBuilder();
        for (List<String> block : blocks) {
            if (block.get(0).startsWith("static ")) {
                methods.append(String.join("\n", block)).append('\n');
            } else {
                String name = "block" + methods.length();
                calls.append(name).append("();\n");
                methods.append("static void ").append(name).append("() {\n");
                block.forEach(line -> methods.append(statementOf(line)).append('\n'));
                methods.append("}\n");
            }
        }
        return "final class " + NAME + " implements Runnable {\n" + methods
                + "public void run() {\n" + calls + "}\n}\n";
    }

    private static String statementOf(String line) {
        Matcher told = TOLD.matcher(line);
        if (!told.matches()) {
            Check.note(line.equals("Tagwranglery archive = new Tagwranglery();") || line.startsWith("archive.collect("),
                    "README.md does not tell what this answers: " + line);
            return line;
        }
        String code = told.group(1);
        String call = code.substring(0, code.length() - 1);
        String text = "\"README.md: " + call.replace("\"", "\\\"") + "\"";
        if (told.group(2) != null) {
            return "Check.fails(" + text + ", " + told.group(3) + ".class, () -> " + call + ");";
        }
        String due = told.group(3).matches("[A-Z]+") ? "Tagwranglery." + told.group(3) : told.group(3);
        Matcher kept = KEPT.matcher(code);
        return kept.matches() ? code + " Check.is(" + text + ", " + due + ", " + kept.group(2) + ");"
                : "Check.is(" + text + ", " + due + ", " + call + ");";
    }

    /** Into this test's own class loader, since Check is not public. */
    private static void run(String source) throws Exception {
        Path folder = Files.createTempDirectory("readme");
        Path file = folder.resolve(NAME + ".java");
        Path compiled = folder.resolve(NAME + ".class");
        try {
            Files.writeString(file, source);
            int code = new ProcessBuilder("javac", "-encoding", "UTF-8", "-cp", System.getProperty("java.class.path"),
                    "-d", folder.toString(), file.toString()).inheritIO().start().waitFor();
            Check.note(code == 0, "the examples of README.md do not compile");
            if (code == 0) {
                Class<?> made = MethodHandles.lookup().defineClass(Files.readAllBytes(compiled));
                ((Runnable) made.getDeclaredConstructor().newInstance()).run();
            }
        } finally {
            Files.deleteIfExists(file);
            Files.deleteIfExists(compiled);
            Files.deleteIfExists(folder);
        }
    }
}
