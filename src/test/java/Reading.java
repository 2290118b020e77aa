import java.io.IOException;
import java.nio.file.Files;
import java.nio.file.Path;

/**
 * Reads a part of the document aloud: a test tells sentence after sentence, as they stand there, each with the calls
 * that it asks for. A sentence that is left out, or told without calls, is a fault.
 */
final class Reading {
    private final Checks checks;
    private final String document;
    private String told = "";
    private boolean hasCalls = true;
    private int at = 0;
    private int end = 0;
    private int lastPromise = 0;

    Reading(String title) {
        checks = new Checks(title);
        document = words();
    }

    /** The whole document in one line, without the marks of its sections. */
    private static String words() {
        try {
            String text = Files.readString(Path.of("../shared/DOC.md"));
            return text.replaceAll("```(text)?|======== [12]", " ").replaceAll("\\s+", " ");
        } catch (IOException e) {
            throw new IllegalStateException("the document is not there", e);
        }
    }

    /** What stands from these words on, ahead of those. */
    void part(String from, String until) {
        endPart();
        at = document.indexOf(from);
        end = at < 0 ? -1 : document.indexOf(until, at);
        checks.isTrue("the document has no such part: " + from, end >= 0);
    }

    /** What stands behind the face of that promise. */
    void promise(int number) {
        part("## Promise " + number + ": ", number < 41 ? "## Promise " + (number + 1) + ": " : "## Not promised");
        checks.due("the promise behind " + lastPromise, number, lastPromise + 1);
        lastPromise = number;
        at = document.indexOf("`: ", at) + 3;
    }

    /** The next sentence, or as much of it as the next calls are for. */
    void next(String words) {
        checks.isTrue("a sentence without calls: " + told, hasCalls);
        checks.isTrue("'" + words + "' is told, in the document stands: " + rest(), rest().startsWith(words));
        at += words.length();
        while (at < end && document.charAt(at) == ' ') at++;
        told = words;
        hasCalls = false;
    }

    private String rest() {
        return at >= 0 && at < end ? document.substring(at, end) : "";
    }

    private void endPart() {
        checks.isTrue("a sentence without calls: " + told, hasCalls);
        checks.isTrue("sentences without a test: " + rest(), rest().isBlank());
    }

    void due(String call, long got, long want) {
        hasCalls = true;
        checks.due("[" + told + "] " + call, got, want);
    }

    void same(String what, String got, String want) {
        hasCalls = true;
        checks.isTrue("[" + told + "] " + what + ": " + got + ", due is " + want, got.equals(want));
    }

    /** The promises that a test reads later begin behind that one. */
    void behindPromise(int number) {
        lastPromise = number;
    }

    /** Ends the program. */
    void end() {
        endPart();
        checks.end();
    }
}
