import java.io.IOException;
import java.io.UncheckedIOException;
import java.nio.file.Files;
import java.nio.file.Path;
import java.util.LinkedHashMap;
import java.util.Map;

/**
 * Sentences of ../shared/DOC.md, each with a test of its own. Each is quoted as the document has it; words of a
 * section that no test quotes are a failure too, so that none is passed over.
 */
final class Sentences {
    private static final String DOC = load();
    private static final Map<String, String> SECTIONS = new LinkedHashMap<>();
    private static final Map<String, boolean[]> QUOTED = new LinkedHashMap<>();
    private static String heading = "";
    private static int passed = 0;
    private static int failed = 0;

    private Sentences() {
    }

    private static String load() {
        try {
            String path = System.getProperty("hungerbooks.doc", "../shared/DOC.md");
            return Files.readString(Path.of(path)).replaceAll("(?m)^```\\w*$", "").replaceAll("\\s+", " ");
        } catch (IOException thrown) {
            throw new UncheckedIOException(thrown);
        }
    }

    static void whatItIs() {
        open("What it is", between("## What it is", "==== 1."));
    }

    /** The sentence between the first line and the public face. */
    static void useOfAnObject() {
        open("How long an object is used", between("==== 1.", "## The public face"));
    }

    static void publicFace() {
        open("The public face", between("## The public face", "## Terms"));
    }

    /** What follows is of the Terms behind ==== n. */
    static void terms(int n) {
        String from = n == 1 ? "## Terms" : "==== " + n + ".";
        open("==== " + n, between(from, n == 4 ? "The constants:" : "==== " + (n + 1) + "."));
    }

    static void constants() {
        open("The constants", between("The constants:", "## Promise 1:"));
    }

    static void promise(int n) {
        String text = wholePromise(n);
        open("Promise " + n, text.substring(text.indexOf("`: ") + 3));
    }

    /** The method's name, its face, then what it promises. */
    static String wholePromise(int n) {
        return between("## Promise " + n + ":", n == 38 ? "## Not promised" : "## Promise " + (n + 1) + ":");
    }

    static void notPromised() {
        open("Not promised", between("## Not promised", ""));
    }

    /** The words of the section that is being read. */
    static String text() {
        return SECTIONS.get(heading);
    }

    private static String between(String from, String to) {
        int start = DOC.indexOf(from);
        int end = to.isEmpty() ? DOC.length() : DOC.indexOf(to, start + from.length());
        if (start < 0 || end < 0) throw new IllegalStateException("the document has nothing from " + from + " to " + to);
        return DOC.substring(start + from.length(), end);
    }

    private static void open(String name, String text) {
        heading = name;
        SECTIONS.put(name, text);
        QUOTED.put(name, new boolean[text.length()]);
    }

    static void holds(String quote, Runnable checks) {
        int wrongAhead = Due.wrong();
        int at = SECTIONS.get(heading).indexOf(quote);
        Due.due("'" + quote + "' stands in the document", at >= 0, true);
        for (int k = 0; at >= 0 && k < quote.length(); k++) QUOTED.get(heading)[at + k] = true;
        try {
            checks.run();
        } catch (RuntimeException | Error thrown) {
            Due.due(thrown + " was thrown", true, false);
        }
        boolean fits = Due.wrong() == wrongAhead;
        passed += fits ? 1 : 0;
        failed += fits ? 0 : 1;
        if (!fits) System.out.println("FAILED: " + heading + ": " + quote);
    }

    /** Ends with how many sentences passed and failed, in the form that .ci/run adds up. */
    static void end(String name) {
        for (String section : SECTIONS.keySet()) {
            String left = unquoted(section);
            Due.due(section + ": no test quotes '" + left + "'", left.isEmpty(), true);
        }
        System.out.println("sentences: " + passed + " passed, " + failed + " failed");
        Due.end(name);
    }

    private static String unquoted(String section) {
        StringBuilder left = new StringBuilder();
        String text = SECTIONS.get(section);
        for (int k = 0; k < text.length(); k++) left.append(QUOTED.get(section)[k] ? '|' : text.charAt(k));
        String words = left.toString().replaceAll("\\|+", " ").replaceAll("\\band\\b", " ");
        return words.replaceAll("[^A-Za-z0-9]+", " ").trim();
    }
}
