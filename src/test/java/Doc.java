import java.io.IOException;
import java.nio.file.Files;
import java.nio.file.Path;
import java.util.ArrayList;
import java.util.BitSet;
import java.util.LinkedHashMap;
import java.util.List;
import java.util.Map;

/**
 * The document's text by its places: "0" is what stands ahead of section 1, "1" to "4" are the sections, "P1" to "P49"
 * the promises. It keeps in mind what was quoted of each.
 */
final class Doc {
    // What is no sentence, and the parameters that only bear a name.
    private static final String NO_SENTENCE = "`.*|-{4} .*|- `[a-zA-Z]+`: [^0-9(]*|Whole numbers\\."
        + "|The constructor and the methods follow.*|the signature, then what it does\\.";
    // It decides nothing here: no call of this class has several as good.
    private static final String NO_CASE = "of several as good the one with the smallest number is taken.";

    private final Map<String, String> texts = new LinkedHashMap<>();
    private final Map<String, BitSet> quoted = new LinkedHashMap<>();

    Doc(Path file) throws IOException {
        String place = null;
        for (String line : Files.readAllLines(file)) {
            if (line.startsWith("## Promise ")) {
                place = "P" + line.substring("## Promise ".length(), line.indexOf(':'));
            } else if (line.startsWith("## ")) {
                place = line.equals("## Description") ? "0" : null;
            } else if (line.startsWith("== ")) {
                place = line.substring(3, 4);
            } else if (place != null && !line.isEmpty()) {
                texts.merge(place, line.trim(), (one, other) -> one + "\n" + other);
            }
        }
        texts.keySet().forEach(key -> quoted.put(key, new BitSet()));
    }

    boolean isQuote(String place, String words) {
        int start = texts.getOrDefault(place, "").indexOf(words);
        if (start >= 0) {
            quoted.get(place).set(start, start + words.length());
        }
        return start >= 0;
    }

    /** The sentences, cut at each full stop and semicolon, of which no word was quoted. */
    List<String> unquoted() {
        List<String> found = new ArrayList<>();
        for (String place : texts.keySet()) {
            String text = texts.get(place);
            int start = 0;
            for (String sentence : text.split("(?<=[.;])[ \n]|\n")) {
                int end = start + sentence.length();
                int next = quoted.get(place).nextSetBit(start);
                if ((next < 0 || next >= end) && !sentence.matches(NO_SENTENCE) && !sentence.equals(NO_CASE)) {
                    found.add(place + ": " + sentence);
                }
                start = end + 1;
            }
        }
        return found;
    }
}
