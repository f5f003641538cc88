import java.io.IOException;
import java.nio.file.Files;
import java.nio.file.Path;
import java.util.ArrayList;
import java.util.BitSet;
import java.util.List;
import java.util.Map;
import java.util.TreeMap;

/** The terms and the promises of DOC.md, and which of their words a test has quoted. */
final class Document {
    static final int TERMS = 0;
    static final int PROMISES = 49;

    private final Map<Integer, String> texts = new TreeMap<>();
    private final Map<Integer, BitSet> quoted = new TreeMap<>();

    Document(Path path) throws IOException {
        String all = Files.readString(path).replaceAll("```\\w*", " ").replaceAll("\\s+", " ");
        put(TERMS, between(all, "## Terms ", " Ahead of the calls "));
        for (int promise = 1; promise <= PROMISES; promise++) {
            String section = between(all, "## Promise " + promise + ": ", " ## ");
            put(promise, section.substring(section.indexOf("`: ") + 3));
        }
    }

    private static String between(String all, String head, String tail) {
        int from = all.indexOf(head);
        int to = all.indexOf(tail, from + head.length());
        if (from < 0 || to < 0) {
            throw new IllegalStateException("the document has no " + head);
        }
        return all.substring(from + head.length(), to);
    }

    private void put(int promise, String text) {
        texts.put(promise, text);
        quoted.put(promise, new BitSet());
    }

    /** These words are quoted from now on; false: they do not stand there. */
    boolean quote(int promise, String words) {
        String text = texts.get(promise);
        int at = text.indexOf(words);
        boolean found = at >= 0;
        while (at >= 0) {
            quoted.get(promise).set(at, at + words.length());
            at = text.indexOf(words, at + 1);
        }
        return found;
    }

    /** What no test has quoted, but for signs that are no word. */
    List<String> unquoted() {
        List<String> all = new ArrayList<>();
        for (int promise : texts.keySet()) {
            String text = texts.get(promise);
            BitSet known = quoted.get(promise);
            for (int at = known.nextClearBit(0); at < text.length();) {
                int next = known.nextSetBit(at);
                int end = next < 0 ? text.length() : next;
                String words = text.substring(at, end);
                if (words.matches(".*[A-Za-z0-9].*")) {
                    all.add((promise == TERMS ? "terms: " : "promise " + promise + ": ") + words);
                }
                at = known.nextClearBit(end);
            }
        }
        return all;
    }
}
