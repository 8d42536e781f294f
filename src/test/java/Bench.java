import java.io.IOException;
import java.nio.file.Files;
import java.nio.file.Path;

/** What tests with answers worked out by hand share: a board, texts for its tape, and the answers that are due. */
abstract class Bench {
    static final String SAMPLE =
        "board 2 3 limit 4;drum 2 ' abc';drum 3 ' xyxz';cells 3 5 1;row 0 'ab';lose 1 2";
    static final String FORTY = "0123456789012345678901234567890123456789";
    private static final Path DOC = Path.of("../shared/DOC.md");
    static FlapBoard x = new FlapBoard();
    static String about = "";
    private static int wrong = 0;

    static void due(String call, long got, long want) {
        if (got != want) blame(call + " answered " + got + ", due is " + want);
    }

    static void shown(String what, String got, String want) {
        if (!got.equals(want)) blame(what + " is '" + got + "', due is '" + want + "'");
    }

    static void blame(String what) {
        wrong++;
        System.out.println(about + ": " + what);
    }

    static void finish(String fine) {
        System.out.println(wrong == 0 ? fine : wrong + " answers are not as due");
        if (wrong != 0) System.exit(1);
    }

    /** The document, with one blank wherever it has some white space. */
    static String document() throws IOException {
        return Files.readString(DOC).replaceAll("\\s+", " ");
    }

    /** Twenty bytes of a text from a place on, as feed takes them; zeros behind its end. */
    static int[] packed(String s, int from) {
        int[] v = new int[5];
        for (int k = 0; k < 20; k++) {
            v[k / 4] = v[k / 4] << 8 | (from + k < s.length() ? s.charAt(from + k) : 0);
        }
        return v;
    }

    /** The tape has this text alone. */
    static void tape(String s) {
        x.end(0);
        for (int i = 0; i < s.length(); i += 20) {
            int[] v = packed(s, i);
            x.feed(v[0], v[1], v[2], v[3], v[4]);
        }
        x.end(s.length());
    }

    static int tell(String s) {
        tape(s);
        return x.tell();
    }

    static int row(int row, String s) {
        tape(s);
        return x.row(row);
    }

    static int scroll(String s) {
        tape(s);
        return x.scroll();
    }

    static int run(String s) {
        tape(s);
        return x.run();
    }

    static String letters(int what) {
        StringBuilder b = new StringBuilder();
        for (int k = 0; k < x.letter(what, -1); k++) b.append((char) x.letter(what, k));
        return b.toString();
    }

    static void fault(String s, int place, int kind) {
        due("tell " + s, tell(s), -2 - (8 * place + kind));
        due("tape behind it", x.count(6), 0);
    }

    static void runFault(String s, int place, int kind) {
        due("run " + s, run(s), -2 - (8 * place + kind));
        due("tape behind it", x.count(6), 0);
    }
}
