import java.io.IOException;
import java.nio.file.Path;

/** A test for each sentence that names an edge: it bears the words of the document that it is about. */
abstract class Edges extends Bench {
    private static Doc doc;
    private static String place;
    static int edges;

    static void open() throws IOException {
        doc = new Doc(Path.of("../shared/DOC.md"));
    }

    /** The edges that follow are of this place of the document. */
    static void of(String newPlace) {
        place = newPlace;
    }

    static void edge(String words, Runnable test) {
        at = place + " \"" + words + "\"";
        int before = checks;
        if (!doc.isQuote(place, words)) {
            fail("these words are not in the document");
        }
        try {
            test.run();
        } catch (RuntimeException e) {
            fail("the test ended by " + e);
        }
        if (checks == before) {
            fail("nothing was looked at");
        }
        edges++;
    }

    static void close() {
        for (String sentence : doc.unquoted()) {
            at = sentence;
            fail("no edge is about this sentence");
        }
    }

    private static void fail(String found) {
        wrong++;
        System.out.println(at + ": " + found);
    }
}
