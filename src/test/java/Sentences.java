import java.io.IOException;
import java.nio.file.Files;
import java.nio.file.Path;
import java.util.BitSet;
import java.util.Map;
import java.util.TreeMap;
import java.util.regex.Matcher;
import java.util.regex.Pattern;

/**
 * The document's sentences. A test names the words that it is of; words that the document hasn't,
 * and words of the document that no test names, are told as wrong, so that none is forgotten.
 */
final class Sentences {
    /** The number under which the terms stand, with what is said of an object's calls. */
    static final int TERMS = 0;

    private final Due due;
    private final Map<Integer, String> texts = new TreeMap<>();
    private final Map<Integer, BitSet> named = new TreeMap<>();

    Sentences(Due due, Path document) throws IOException {
        this.due = due;
        if (!Files.isReadable(document)) {
            System.out.println(document + " isn't here: the sentences are not looked up");
            return;
        }
        String all = Files.readString(document).replaceAll("```(text)?", " ");
        String calls = between(all, "An object is used", "## The public face");
        add(TERMS, "An object is used" + calls + between(all, "## Terms", "Ahead of the calls"));
        Matcher promise = Pattern.compile("(?s)## Promise (\\d+): [^\n]*\n\n`[^`]*`: (.*?)\n\n##")
                .matcher(all);
        for (int from = 0; promise.find(from); from = promise.end() - 2) {
            add(Integer.parseInt(promise.group(1)), promise.group(2));
        }
        due.part("the document");
        due.is("promises found, and the terms", texts.size(), 29);
    }

    private static String between(String text, String from, String to) {
        int start = text.indexOf(from) + from.length();
        return text.substring(start, text.indexOf(to, start));
    }

    private void add(int number, String text) {
        texts.put(number, text.replaceAll("\\s+", " "));
        named.put(number, new BitSet());
    }

    /** The answers that are asked from now on are of these words. */
    void of(int number, String words) {
        due.part((number == TERMS ? "terms" : "promise " + number) + ", \"" + words + "\"");
        if (texts.isEmpty()) {
            return;
        }
        String text = texts.getOrDefault(number, "");
        int at = text.indexOf(words);
        due.holds("the document has these words", at >= 0);
        for (; at >= 0; at = text.indexOf(words, at + 1)) {
            named.get(number).set(at, at + words.length());
        }
    }

    /** Each word of the document must have been named. */
    void end() {
        for (Map.Entry<Integer, String> entry : texts.entrySet()) {
            due.part(entry.getKey() == TERMS ? "terms" : "promise " + entry.getKey());
            String text = entry.getValue();
            BitSet done = named.get(entry.getKey());
            for (int at = done.nextClearBit(0); at < text.length(); at = done.nextClearBit(at)) {
                int to = done.nextSetBit(at) < 0 ? text.length() : done.nextSetBit(at);
                String rest = text.substring(at, to);
                due.holds("a test names: " + rest, !rest.matches(".*[A-Za-z0-9].*"));
                at = to;
            }
        }
    }
}
