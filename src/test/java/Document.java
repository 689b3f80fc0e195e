import java.io.IOException;
import java.nio.file.Files;
import java.nio.file.Path;
import java.util.List;

/** The words of ../shared/DOC.md, by promise; without that file nothing is held against it. */
final class Document {
    /** What stands ahead of the public face. */
    static final int WHAT = -1;
    /** The terms and the paragraph on refusals. */
    static final int TERMS = 0;
    static final int LAST = 38;
    private static final String TEXT = read();

    private Document() {
    }

    private static String read() {
        try {
            return Files.readString(Path.of("../shared/DOC.md")).replaceAll("\\s+", " ");
        } catch (IOException gone) {
            return "";
        }
    }

    static boolean isThere() {
        return !TEXT.isEmpty();
    }

    static String section(int promise) {
        int start = TEXT.indexOf(heading(promise));
        int end = TEXT.indexOf(promise == WHAT ? "## The public face" : heading(promise + 1));
        return start < 0 || end < start ? "" : TEXT.substring(start, end);
    }

    private static String heading(int promise) {
        if (promise == WHAT || promise == TERMS) {
            return promise == WHAT ? "## What it is" : "## Terms ";
        }
        return promise > LAST ? "## Not promised" : "## Promise " + promise + ":";
    }

    /** What a section tells behind its heading and its face, without the quoted words. */
    static String unquoted(int promise, List<String> quoted) {
        String section = section(promise);
        String rest = promise > TERMS ? section.substring(section.lastIndexOf('`') + 1) : section;
        for (String words : quoted) {
            rest = rest.replace(words, " ");
        }
        return rest;
    }
}
