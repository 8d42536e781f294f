import java.io.IOException;
import java.io.UncheckedIOException;
import java.util.Set;
import java.util.TreeSet;

/** Tests by sentences: each names the words of the document that it holds the class against, and starts on a new object. */
abstract class Sentences extends Bench {
    private static final String DOCUMENT = read();
    private static final Set<Integer> PROMISES = new TreeSet<>();
    private static int sentences = 0;

    private static String read() {
        try {
            return document();
        } catch (IOException e) {
            throw new UncheckedIOException(e);
        }
    }

    /** The words stand somewhere in the document. */
    static void on(String words) {
        begin(words, DOCUMENT);
    }

    /** The words stand under a promise's heading. */
    static void promise(int number, String words) {
        PROMISES.add(number);
        int from = DOCUMENT.indexOf("## Promise " + number + ":");
        int to = DOCUMENT.indexOf("## ", from + 3);
        begin(words, DOCUMENT.substring(from, to));
        about = "promise " + number + ", " + about;
    }

    private static void begin(String words, String where) {
        sentences++;
        about = '"' + words + '"';
        x = new FlapBoard();
        if (!where.contains(words)) blame("the document has no such words");
    }

    static void allPromises(int last) {
        about = "promises";
        due("how many have a sentence", PROMISES.size(), last);
    }

    static void finishAll() {
        finish(sentences + " sentences hold");
    }

    static void told(String s, int drums) {
        due("tell " + s, tell(s), drums);
    }

    static void ran(String s, int steps) {
        due("run " + s, run(s), steps);
    }

    /** All cells' answers to one question, by a call's name. */
    static void cells(int what, int... want) {
        for (int k = 0; k < want.length; k++) due("cell " + k + ", " + what, x.cell(k, what), want[k]);
        due("a cell behind the last", x.cell(want.length, what), -1);
    }
}
