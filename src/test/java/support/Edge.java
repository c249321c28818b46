import java.io.IOException;
import java.nio.file.Files;
import java.nio.file.Path;
import java.util.ArrayList;
import java.util.List;
import java.util.function.Consumer;
import java.util.function.ObjIntConsumer;

/**
 * Boundary cases: each is a test of its own, made on an object of its own, and bears the words of the
 * document that name it. Those words are looked up in ../shared/DOC.md, so that a case tells what
 * stands there, and no sentence with a boundary stays without a case.
 */
final class Edge {
    private static final Path DOCUMENT = Path.of("../shared/DOC.md");
    /** Stands for the number of a promise in what is told of "Terms". */
    private static final int TERMS = 0;
    private static final List<String> quoted = new ArrayList<>();
    private static final List<Integer> promises = new ArrayList<>();

    private Edge() {
    }

    static void of(int promise, String words, String what, Consumer<Tagwranglery> calls) {
        quoted.add(words);
        promises.add(promise);
        Check.about((promise == TERMS ? "Terms" : "promise " + promise) + ", \"" + words + "\", " + what + ": ");
        int before = Check.noted();
        try {
            calls.accept(new Tagwranglery());
        } catch (RuntimeException e) {
            Check.note(false, "a call that is due threw " + e);
        }
        Check.note(Check.noted() > before, "nothing was looked at");
        Check.about("");
    }

    static void term(String words, String what, Consumer<Tagwranglery> calls) {
        of(TERMS, words, what, calls);
    }

    /** A case for each number that is next to those that there are, has their lowest bits, or is farthest. */
    static void noSuch(int promise, String words, String what, int count, Consumer<Tagwranglery> before,
            ObjIntConsumer<Tagwranglery> call) {
        for (int number : new int[] {-1, -2, count, 32, 64, Integer.MIN_VALUE, Integer.MAX_VALUE}) {
            of(promise, words, what + " " + number, x -> {
                before.accept(x);
                Check.noIndex(what + " " + number, () -> call.accept(x, number));
            });
        }
    }

    /** A case for each number that is next to a range, or farthest from it. */
    static void outOfRange(int promise, String words, String what, int least, int most,
            Consumer<Tagwranglery> before, ObjIntConsumer<Tagwranglery> call) {
        for (int number : new int[] {least - 1, most + 1, Integer.MIN_VALUE, Integer.MAX_VALUE}) {
            of(promise, words, what + " " + number, x -> {
                before.accept(x);
                Check.noArgument(what + " " + number, () -> call.accept(x, number));
            });
        }
    }

    /** Ends a test of the cases of some promises and of the terms under some heads. */
    static void end(int from, int to, String... heads) {
        if (Files.exists(DOCUMENT)) {
            try {
                lookUp(Files.readAllLines(DOCUMENT), from, to, List.of(heads));
            } catch (IOException e) {
                Check.note(false, "the document cannot be read");
            }
        }
        Check.end();
    }

    private static void lookUp(List<String> lines, int from, int to, List<String> heads) {
        List<List<String>> clauses = new ArrayList<>();
        clauses.add(sentencesUnder(lines, heads));
        for (int promise = 1; promise <= to; promise++) {
            clauses.add(promise < from ? List.of() : clausesOf(lines, promise));
        }
        for (int i = 0; i < quoted.size(); i++) {
            String words = quoted.get(i);
            int promise = promises.get(i);
            Check.note(promise <= to && clauses.get(promise).stream().anyMatch(each -> each.contains(words)),
                    promise + ": the document does not say " + words);
        }
        for (int promise = 0; promise <= to; promise++) {
            for (String each : clauses.get(promise)) {
                Check.note(isQuoted(each, promise) || !namesBoundary(each), promise + ": no case quotes: " + each);
            }
        }
    }

    private static boolean isQuoted(String clause, int promise) {
        for (int i = 0; i < quoted.size(); i++) {
            if (promises.get(i) == promise && clause.contains(quoted.get(i))) {
                return true;
            }
        }
        return false;
    }

    /** What a parameter is names no boundary, unless it has a figure. */
    private static boolean namesBoundary(String clause) {
        return !clause.startsWith("- ") || clause.matches(".*[0-9].*");
    }

    private static List<String> clausesOf(List<String> lines, int promise) {
        List<String> clauses = new ArrayList<>();
        boolean in = false;
        for (String line : lines) {
            if (line.startsWith("## ")) {
                in = line.startsWith("## Promise " + promise + ":");
            } else if (in && !line.isBlank()) {
                clauses.add(line.replace("`", ""));
            }
        }
        Check.note(!clauses.isEmpty(), "the document has no promise " + promise);
        return clauses;
    }

    /** Heads are lines that do not end a sentence. */
    private static List<String> sentencesUnder(List<String> lines, List<String> heads) {
        List<String> sentences = new ArrayList<>();
        boolean in = false;
        for (String line : lines) {
            if (line.startsWith("The constants")) {
                break;
            }
            if (!line.isBlank() && !line.endsWith(".")) {
                in = heads.contains(line.replaceFirst("^#+ ", ""));
            } else if (in && !line.isBlank()) {
                sentences.addAll(List.of(line.split("(?<=[.]) ")));
            }
        }
        Check.note(!sentences.isEmpty(), "the document has no terms under " + heads);
        return sentences;
    }
}
