import java.math.BigInteger;

/** The sentences of promises 1 to 41 that name a boundary case, each with a test of its own. */
public final class PromiseSentencesTest extends Sentences {
    /** Two rows of two cells, four flaps each. */
    private static final String SMALL = "board 2 2 limit 9;drum 1 'abcd'";
    private static final int[] BEYOND = {Integer.MIN_VALUE, -2, -1, 1000, Integer.MAX_VALUE};
    private static final String SIGNS = " abcdefghijklmnopqrstuvwxyz0123456789.!?";

    public static void main(String[] args) {
        newObject();
        feeds();
        ends();
        tells();
        rows();
        scrolls();
        ticks();
        settles();
        longestSettle();
        loses();
        wears();
        mends();
        limits();
        exchanges();
        runs();
        undos();
        keeps();
        backs();
        cellAnswers();
        wornBits();
        drumAnswers();
        signAnswers();
        atAnswers();
        whichCells();
        lefts();
        whens();
        loudests();
        totals();
        costs();
        bests();
        places();
        logs();
        oftens();
        usuals();
        betters();
        farthests();
        lacking();
        resting();
        unlikeRows();
        letterAnswers();
        digests();
        counts();
        allPromises(41);
        finishAll();
    }

    private static void newObject() {
        on("`NONE = -1`");
        due("NONE", FlapBoard.NONE, -1);

        promise(1, "No BOARD");
        due("cells", x.count(2), 0);
        due("row", x.row(0), -1);
        due("scroll", x.scroll(), -1);
        due("run", x.run(), -1);
        due("undo", x.undo(), -1);
        due("back", x.back(0), -2);
        due("digest", x.digest(), 17);
    }

    private static void feeds() {
        promise(2, "Twenty bytes come behind the TAPE, of each number the highest first");
        told("board 1 10 limit 9;drum 1 'abcdefghijklmnopqrstuvw'", 1);
        due("feed", x.feed(0x61626364, 0x65666768, 0x696A6B6C, 0x6D6E6F70, 0x71727374), 20);
        x.end(10);
        x.row(0);
        shown("the first ten", letters(1), "abcdefghij");
        // the highest bit is no sign of a number: 0xE1 is a byte, and no letter
        x.feed(0xE1626364, 0, 0, 0, 0);
        x.end(4);
        due("row", x.row(0), -2);
        x.feed(0x61626364, 0, 0, 0, 0x20202020);
        x.end(4);
        due("behind what is left", x.feed(0x65666768, 0, 0, 0, 0), 24);
        x.end(8);
        x.row(0);
        shown("the first eight", letters(1), "abcdefghaa");

        promise(2, "how many it has; NONE, and none comes, if it would have more than 400");
        for (int k = 1; k <= 20; k++) due("feed", x.feed(1, 2, 3, 4, 5), 20 * k);
        due("full", x.feed(1, 2, 3, 4, 5), -1);
        due("none came", x.count(6), 400);
        x.end(381);
        due("one too many", x.feed(1, 2, 3, 4, 5), -1);
        due("none came", x.count(6), 381);
        x.end(380);
        due("just as many", x.feed(1, 2, 3, 4, 5), 400);
    }

    private static void ends() {
        promise(3, "The TAPE has its first n bytes alone: n; NONE, and nothing happens, if it has not so many, or n is below 0");
        due("nothing of nothing", x.end(0), 0);
        due("one of nothing", x.end(1), -1);
        x.feed(1, 2, 3, 4, 5);
        due("all", x.end(20), 20);
        due("one more", x.end(21), -1);
        due("below 0", x.end(-1), -1);
        due("below 0", x.end(Integer.MIN_VALUE), -1);
        due("bytes", x.count(6), 20);
        due("some", x.end(19), 19);
        due("what was cut is gone", x.end(20), -1);
        due("bytes", x.count(6), 19);
        due("none", x.end(0), 0);
        due("bytes", x.count(6), 0);
    }

    private static void tells() {
        promise(4, "The TAPE tells a BOARD in place of the one there was (nothing can be UNDONE; SHELVES stay): how many DRUMS");
        told(SAMPLE, 2);
        row(0, "cab");
        x.settle();
        x.keep(1);
        told("board 1 1 limit 9;drum 1 'xyz';drum 1 'xyz';drum 1 'xyz';drum 1 'xyz'", 4);
        due("acts", x.count(5), 0);
        due("undo", x.undo(), -1);
        due("shelves", x.count(7), 2);
        due("cells", x.count(2), 1);
        for (int what = 0; what < 4; what++) due("total " + what, x.total(what), 0);
        due("steps", x.cell(0, 6), 0);
        due("the shelf holds what it held", x.back(1), 6);

        promise(4, "in place of the one there was");
        // nothing is left of a greater board, nor of what was only tried on it
        String forty = "drum 9 '" + SIGNS + "';";
        told("board 4 10 limit 99;" + forty + forty + forty + "drum 9 '" + SIGNS + "';cells 0 39 3;lose 0 3", 4);
        row(0, "??????????");
        x.settle();
        row(0, "zzzzzzzzzz");
        x.when(0);
        x.rests(0);
        told("board 1 2 limit 9;drum 1 ' ab'", 1);
        for (int what = 0; what < 4; what++) due("total " + what, x.total(what), 0);
        for (int cell = 0; cell < 2; cell++) {
            for (int what = 0; what < 9; what++) due("cell " + cell + ", " + what, x.cell(cell, what), 0);
        }
        int[] drum = {1, 3, 2, 3, 1};
        for (int what = 0; what < 5; what++) due("drum " + what, x.drum(0, what), drum[what]);
        due("no second drum", x.sign(1, 0), -1);
        due("no second drum", x.drum(1, 0), -1);
        due("no second drum", x.exchange(1, 1, 2), -1);
        due("no second drum", x.often(1, 0, true), -1);
        due("no fourth flap", x.sign(0, 3), -1);
        due("signs", x.lacks(0, 1), 0);
        due("log", x.log(0, 1), 0);
        for (int what = 0; what < 6; what++) due("when " + what, x.when(what), 0);

        promise(4, "-2 - its FAULT, and but for the TAPE nothing happens");
        due("the least one", tell("x"), -3);
        told(SAMPLE, 2);
        row(0, "cab");
        x.tick(1);
        long digest = x.digest();
        fault("board 1 1 limit 9;drum 1 'xyz';row 0 'z';x", 41, 1);
        due("digest", x.digest(), digest);
        due("acts", x.count(5), 2);
        due("log", x.log(0, 1), 3);
        due("steps", x.total(2), 2);
        due("sign", x.sign(0, 1), 'a');
        due("limit", x.count(3), 4);
        due("undo", x.undo(), 1);
    }

    private static void rows() {
        promise(5, "A ROW WANTS the SIGNS on the TAPE: how many MISS");
        told(SMALL, 1);
        due("none", row(1, "bd"), 0);
        due("one", row(1, "bx"), 1);
        due("two", row(1, "xx"), 2);
        due("none of none", row(1, ""), 0);
        due("first row", row(0, "b"), 0);

        promise(5, "NONE, and but for the TAPE nothing happens, without that ROW");
        told(SMALL, 1);
        for (int row : new int[] {-1, 2, Integer.MIN_VALUE, Integer.MAX_VALUE}) due("row " + row, row(row, "b"), -1);
        due("tape", x.count(6), 0);
        due("acts", x.count(5), 0);
        shown("wanted", letters(1), "aa/aa");
        x = new FlapBoard();
        due("without a board", row(0, ""), -1);

        promise(5, "-2 likewise: there are more than WIDE, or one is no SIGN");
        told(SMALL, 1);
        due("just as many", row(0, "aa"), 0);
        due("one more", row(0, "bbb"), -2);
        due("many", row(0, "b".repeat(400)), -2);
        due("31", row(0, "b\u001f"), -2);
        due("32", row(0, "b "), 1);
        due("39", row(0, "'"), -2);
        due("126", row(0, "~"), 1);
        due("127", row(0, "\u007f"), -2);
        due("255", row(0, "b\u00ff"), -2);
        due("0", row(0, "\u0000"), -2);
        due("tape", x.count(6), 0);
        due("acts", x.count(5), 3);
        due("log", x.log(0, 1), 1);
    }

    private static void scrolls() {
        promise(6, "how many MISS; NONE without a BOARD; -2 as row()");
        due("without a board", scroll("b"), -1);
        due("tape", x.count(6), 0);
        told(SMALL, 1);
        due("none", scroll(""), 0);
        due("two", scroll("xx"), 2);
        due("just as many", scroll("bb"), 0);
        due("one more", scroll("ccc"), -2);
        due("no sign", scroll("'"), -2);
        due("no sign", scroll("\u001f"), -2);
        due("no sign", scroll("\u007f"), -2);
        due("tape", x.count(6), 0);
        due("acts", x.count(5), 3);
        shown("wanted", letters(1), "aa/bb");
    }

    private static void ticks() {
        promise(7, "n TICKS (1 to 99): how many STEPS were done");
        told("board 1 3 limit 2;drum 1 '" + SIGNS + "'", 1);
        row(0, "???");
        due("one", x.tick(1), 2);
        due("two", x.tick(2), 4);
        due("left", x.left(0), 111);
        due("as many as are left", x.tick(99), 111);
        due("none", x.tick(1), 0);
        due("an act all the same", x.count(5), 5);

        promise(7, "NONE, and nothing happens, without a BOARD, for another n");
        due("without a board", x.tick(1), -1);
        told(SMALL, 1);
        row(0, "dd");
        due("0", x.tick(0), -1);
        due("100", x.tick(100), -1);
        for (int n : BEYOND) due("tick " + n, x.tick(n), -1);
        due("left", x.left(0), 6);
        due("acts", x.count(5), 1);
    }

    private static void settles() {
        promise(8, "TICKS till none TURNS: how many in which one did");
        told(SMALL, 1);
        row(0, "bd");
        due("settle", x.settle(), 3);
        row(0, "ba");
        due("settle", x.settle(), 1);

        promise(8, "NONE, and nothing happens, without a BOARD");
        due("without a board", x.settle(), -1);
        due("acts", x.count(5), 0);

        promise(8, "-2, and nothing happens: none TURNS");
        told(SMALL, 1);
        due("nothing left", x.settle(), -2);
        row(0, "bd");
        x.settle();
        due("settled", x.settle(), -2);
        due("acts", x.count(5), 2);
        told("board 1 1 limit 4;drum 5 'ab'", 1);
        row(0, "b");
        due("above the limit", x.settle(), -2);
        x.limit(5);
        due("no more", x.settle(), 1);
    }

    /** Forty cells that turn one by one, and find that they have lost steps: 57 ticks each. */
    private static void longestSettle() {
        promise(8, "TICKS till none TURNS");
        told("board 4 10 limit 1;drum 1 '" + SIGNS + "'", 1);
        String all = "row 0 '##########';row 1 '##########';row 2 '##########';row 3 '##########'";
        for (int round = 0; round < 2; round++) {
            for (int cell = 0; cell < 40; cell++) x.lose(cell, 9);
            run(all.replace('#', round == 0 ? '?' : '!'));
            int each = round == 0 ? 39 : 57;
            due("when", x.when(0), 40 * each);
            due("the last one rests", x.rests(39), 40 * each);
            due("settle", x.settle(), 40 * each);
            due("left", x.left(0), 0);
        }
        due("found", x.total(3), 40 * 18);
    }

    private static void loses() {
        promise(9, "A CELL LOSES n (0 to 9) steps from now on: how many it did");
        told(SMALL, 1);
        due("none", x.lose(3, 9), 0);
        due("nine", x.lose(3, 0), 9);
        due("none", x.lose(0, 1), 0);
        cells(5, 1, 0, 0, 0);

        promise(9, "NONE, and nothing happens, without these");
        due("without a board", x.lose(0, 1), -1);
        told(SMALL, 1);
        due("10", x.lose(0, 10), -1);
        due("cell 4", x.lose(4, 1), -1);
        for (int n : BEYOND) {
            due("n " + n, x.lose(0, n), -1);
            due("cell " + n, x.lose(n, 0), -1);
        }
        cells(5, 0, 0, 0, 0);
        due("acts", x.count(5), 0);

        promise(9, "-2: so it is");
        told(SMALL, 1);
        due("none", x.lose(0, 0), -2);
        x.lose(0, 9);
        due("nine", x.lose(0, 9), -2);
        due("acts", x.count(5), 1);
    }

    private static void wears() {
        promise(10, "A FLAP of a CELL (not HOME) is WORN from now on: how many are");
        told("board 1 2 limit 9;drum 1 'abcd';drum 1 'ab';cells 1 1 1", 2);
        due("the last", x.wear(0, 3), 1);
        due("the first", x.wear(0, 1), 2);
        due("all", x.wear(0, 2), 3);
        due("of two", x.wear(1, 1), 1);
        due("worn", x.worn(0), 0b1110);

        promise(10, "NONE, and nothing happens, without these");
        due("without a board", x.wear(0, 1), -1);
        told("board 1 2 limit 9;drum 1 'abcd';drum 1 'ab';cells 1 1 1", 2);
        due("home", x.wear(0, 0), -1);
        due("flap 4", x.wear(0, 4), -1);
        due("flap 2 of two", x.wear(1, 2), -1);
        due("cell 2", x.wear(2, 1), -1);
        for (int n : BEYOND) {
            due("flap " + n, x.wear(0, n), -1);
            due("cell " + n, x.wear(n, 1), -1);
        }
        due("flap 64 is not flap 0, 65 not 1", x.wear(0, 65), -1);
        due("worn", x.worn(0), 0);
        due("acts", x.count(5), 0);

        promise(10, "-2: it is");
        told(SMALL + ";worn 1 2", 1);
        due("a text's", x.wear(1, 2), -2);
        x.wear(0, 3);
        due("worn", x.wear(0, 3), -2);
        due("acts", x.count(5), 1);
    }

    private static void mends() {
        promise(11, "A FLAP of a CELL is WORN no more: how many are");
        told(SMALL + ";worn 3 1;worn 3 3;worn 0 1", 1);
        due("one is left", x.mend(3, 3), 1);
        due("none is left", x.mend(3, 1), 0);
        due("worn", x.worn(3), 0);
        due("another cell's", x.worn(0), 2);

        promise(11, "NONE, and nothing happens, without these");
        due("without a board", x.mend(0, 1), -1);
        told(SMALL + ";worn 0 1", 1);
        due("flap 4", x.mend(0, 4), -1);
        due("flap 65", x.mend(0, 65), -1);
        due("cell 4", x.mend(4, 1), -1);
        for (int n : BEYOND) {
            due("flap " + n, x.mend(0, n), -1);
            due("cell " + n, x.mend(n, 1), -1);
        }
        due("worn", x.worn(0), 2);
        due("acts", x.count(5), 0);

        promise(11, "-2: it is not");
        told(SMALL + ";worn 0 1", 1);
        due("the next one", x.mend(0, 2), -2);
        due("home", x.mend(0, 0), -2);
        due("another cell's", x.mend(1, 1), -2);
        due("acts", x.count(5), 0);
    }

    private static void limits() {
        promise(12, "The LIMIT (1 to 99): what it was");
        told(SMALL, 1);
        due("nine", x.limit(1), 9);
        due("one", x.limit(99), 1);
        due("ninety-nine", x.limit(50), 99);
        due("limit", x.count(3), 50);

        promise(12, "NONE, and nothing happens, without a BOARD, for another one");
        due("without a board", x.limit(1), -1);
        told(SMALL, 1);
        due("0", x.limit(0), -1);
        due("100", x.limit(100), -1);
        for (int n : BEYOND) due("limit " + n, x.limit(n), -1);
        due("limit", x.count(3), 9);
        due("acts", x.count(5), 0);

        promise(12, "-2: it is so");
        told(SMALL, 1);
        due("nine", x.limit(9), -2);
        due("acts", x.count(5), 0);
    }

    private static void exchanges() {
        promise(13, "Two FLAPS of a DRUM (unlike, neither HOME) change places: their SIGNS");
        told("board 1 2 limit 9;drum 1 'abcd';drum 1 'wxyz';cells 1 1 1", 2);
        due("the first and the last", x.exchange(0, 1, 3), 1);
        due("sign", x.sign(0, 1), 'd');
        due("sign", x.sign(0, 3), 'b');
        due("another drum's", x.sign(1, 1), 'x');
        due("the greater first", x.exchange(1, 3, 2), 1);
        due("sign", x.sign(1, 2), 'z');
        due("sign", x.sign(1, 3), 'y');
        told("board 1 1 limit 9;drum 1 'abbc'", 1);
        due("two of one sign", x.exchange(0, 1, 2), 1);

        promise(13, "LOG of all is empty then (what CELLS SHOW, BELIEVE, WANT, what is WORN stays by numbers)");
        told("board 1 2 limit 9;drum 1 'abcd';drum 1 'wxyz';cells 1 1 1;worn 0 2;lose 0 1", 2);
        row(0, "dz");
        x.tick(1);
        long digest = x.digest();
        due("exchange", x.exchange(0, 3, 2), 1);
        due("log", x.log(0, 1), 0);
        due("log of the other", x.log(1, 1), 0);
        due("digest", x.digest(), digest);
        shown("wanted", letters(1), "cz");
        due("worn", x.worn(0), 4);

        promise(13, "1; NONE, and nothing happens, without these");
        due("without a board", x.exchange(0, 1, 2), -1);
        told("board 1 2 limit 9;drum 1 'abcd'", 1);
        row(0, "bb");
        due("alike", x.exchange(0, 2, 2), -1);
        due("home", x.exchange(0, 0, 1), -1);
        due("home", x.exchange(0, 1, 0), -1);
        due("flap 4", x.exchange(0, 1, 4), -1);
        due("flap 4", x.exchange(0, 4, 1), -1);
        due("drum 1", x.exchange(1, 1, 2), -1);
        for (int n : BEYOND) {
            due("drum " + n, x.exchange(n, 1, 2), -1);
            due("one " + n, x.exchange(0, n, 2), -1);
            due("other " + n, x.exchange(0, 1, n), -1);
        }
        due("log", x.log(0, 1), 2);
        due("acts", x.count(5), 1);
        told("board 1 1 limit 9;drum 1 'ab'", 1);
        due("of two flaps", x.exchange(0, 1, 1), -1);
    }

    private static void runs() {
        promise(14, "The TAPE is a PROGRAM, which is done (one ACT): how many STEPS");
        told(SMALL, 1);
        due("one", run("wait 1"), 1);
        due("three", run("row 0 'bd';settle;lose 0 1"), 3);
        due("200 at most", run("times 20 (times 20 (settle))"), 200);
        due("acts", x.count(5), 3);
        x.undo();
        due("undo", x.undo(), 1);
        shown("wanted", letters(1), "aa/aa");
        due("loses", x.cell(0, 5), 0);

        promise(14, "-2 - its FAULT, and but for the TAPE nothing happens");
        told(SMALL, 1);
        due("the least one", run(""), -3);
        due("the last step", run("row 0 'bd';settle;lose 0 1;x"), -2 - (8 * 27 + 1));
        due("tape", x.count(6), 0);
        due("acts", x.count(5), 0);
        due("loses", x.cell(0, 5), 0);
        shown("wanted", letters(1), "aa/aa");

        promise(14, "NONE likewise without a BOARD");
        due("run", run("settle"), -1);
        due("tape", x.count(6), 0);
        due("acts", x.count(5), 0);
    }

    private static void undos() {
        promise(15, "The last ACT is UNDONE: how many more can be");
        told(SAMPLE, 2);
        long digest = x.digest();
        row(0, "cab");
        x.limit(3);
        x.exchange(0, 1, 2);
        x.wear(2, 1);
        x.tick(2);
        due("tick", x.undo(), 4);
        due("ticks", x.total(1), 0);
        due("clatter", x.total(0), 0);
        due("steps", x.cell(0, 6), 0);
        due("wear", x.undo(), 3);
        due("worn", x.worn(2), 0);
        due("log is empty", x.log(0, 1), 0);
        due("exchange", x.undo(), 2);
        due("sign", x.sign(0, 1), 'a');
        due("log", x.log(0, 1), 3);
        due("limit", x.undo(), 1);
        due("limit", x.count(3), 4);
        due("row", x.undo(), 0);
        due("digest", x.digest(), digest);
        due("log", x.log(0, 1), 0);

        promise(15, "NONE, and nothing happens, if none can");
        due("without a board", x.undo(), -1);
        told(SAMPLE, 2);
        due("nothing was done", x.undo(), -1);
        row(0, "cab");
        x.undo();
        due("all is undone", x.undo(), -1);
        x.keep(0);
        row(0, "cab");
        x.back(0);
        due("behind back", x.undo(), -1);
        row(0, "cab");
        tell(SAMPLE);
        due("behind tell", x.undo(), -1);
        due("cells", x.count(2), 6);
    }

    private static void keeps() {
        promise(16, "All is KEPT on a SHELF: how many CELLS");
        due("no board", x.keep(0), 0);
        due("shelves", x.count(7), 1);
        told("board 4 10 limit 9;drum 1 'ab'", 1);
        x.limit(3);
        due("forty", x.keep(1), 40);
        due("shelves", x.count(7), 3);
        due("acts stay", x.count(5), 1);
        told(SMALL, 1);
        due("in place of what was there", x.keep(1), 4);
        due("back", x.back(1), 4);
        due("limit", x.count(3), 9);
        x.limit(5);
        x.back(1);
        due("what is done later is not kept", x.count(3), 9);

        promise(16, "NONE, and nothing happens, without that SHELF");
        told(SMALL, 1);
        due("2", x.keep(2), -1);
        for (int n : BEYOND) due("shelf " + n, x.keep(n), -1);
        due("shelves", x.count(7), 0);
    }

    private static void backs() {
        promise(17, "All is as it was KEPT (nothing can be UNDONE then): how many CELLS");
        x.keep(1);
        told("board 4 10 limit 9;drum 1 '" + SIGNS + "';drum 1 '" + SIGNS + "'", 2);
        row(0, "zz");
        x.keep(0);
        told(SMALL, 1);
        x.limit(3);
        due("forty", x.back(0), 40);
        due("acts", x.count(5), 0);
        due("drums", x.count(4), 2);
        due("log", x.log(0, 0), 52);
        due("left", x.left(0), 52);
        due("no board", x.back(1), 0);
        due("cells", x.count(2), 0);
        due("drums", x.count(4), 0);
        due("tick", x.tick(1), -1);
        due("forty again", x.back(0), 40);

        promise(17, "NONE, and nothing happens, without that SHELF; -2: nothing is KEPT");
        told(SMALL, 1);
        x.limit(3);
        due("nothing on 0", x.back(0), -2);
        due("nothing on 1", x.back(1), -2);
        x.keep(0);
        due("nothing on 1 still", x.back(1), -2);
        due("2", x.back(2), -1);
        for (int n : BEYOND) due("shelf " + n, x.back(n), -1);
        due("acts", x.count(5), 1);
    }

    private static void cellAnswers() {
        promise(18, "Of a CELL what 0: its DRUM");
        told(SAMPLE, 2);
        row(0, "cab");
        x.settle();
        x.wear(1, 2);
        x.wear(1, 3);
        x.lose(1, 4);
        row(0, "c ");
        int[] due = {0, 3, 1, 0, 3, 4, 3, 0, 2};
        for (int what = 0; what < due.length; what++) due("cell 1, " + what, x.cell(1, what), due[what]);
        due("the last cell's drum", x.cell(5, 0), 1);
        row(0, "a ");
        x.lose(1, 0);
        x.settle();
        due("found", x.cell(1, 7), 2);

        promise(18, "NONE without these");
        due("without a board", x.cell(0, 0), -1);
        told(SAMPLE, 2);
        due("what 9", x.cell(0, 9), -1);
        due("cell 6", x.cell(6, 0), -1);
        for (int n : BEYOND) {
            due("what " + n, x.cell(0, n), -1);
            due("cell " + n, x.cell(n, 0), -1);
        }
    }

    private static void wornBits() {
        promise(19, "WORN FLAPS of a CELL, as bits; NONE without it");
        due("without a board", x.worn(0), -1);
        told("board 1 2 limit 9;drum 1 '" + SIGNS + "'", 1);
        due("none", x.worn(1), 0);
        x.wear(1, 1);
        x.wear(1, 31);
        x.wear(1, 32);
        x.wear(1, 39);
        due("bits", x.worn(1), 2L + (1L << 31) + (1L << 32) + (1L << 39));
        due("another cell", x.worn(0), 0);
        x.mend(1, 31);
        x.mend(1, 32);
        due("bits", x.worn(1), 2L + (1L << 39));
        for (int flap = 1; flap < 40; flap++) x.wear(0, flap);
        due("all but home", x.worn(0), (1L << 40) - 2);
        due("cell 2", x.worn(2), -1);
        for (int n : BEYOND) due("cell " + n, x.worn(n), -1);
    }

    private static void drumAnswers() {
        promise(20, "3: unlike SIGNS, 4: the greatest number of its FLAPS with one SIGN; NONE without these");
        due("without a board", x.drum(0, 0), -1);
        told("board 1 3 limit 9;drum 9 'aabab';drum 1 'wxyz';drum 1 '" + "~".repeat(40) + "';cells 1 2 1", 3);
        int[][] due = {{9, 5, 1, 2, 3}, {1, 4, 2, 4, 1}, {1, 40, 0, 1, 40}};
        for (int drum = 0; drum < 3; drum++) {
            for (int what = 0; what < 5; what++) due("drum " + drum + ", " + what, x.drum(drum, what), due[drum][what]);
        }
        due("what 5", x.drum(0, 5), -1);
        due("drum 3", x.drum(3, 0), -1);
        for (int n : BEYOND) {
            due("what " + n, x.drum(0, n), -1);
            due("drum " + n, x.drum(n, 0), -1);
        }
    }

    private static void signAnswers() {
        promise(21, "The SIGN of a FLAP of a DRUM; NONE without these");
        due("without a board", x.sign(0, 0), -1);
        told("board 1 1 limit 9;drum 1 'ab';drum 1 '" + SIGNS + "'", 2);
        due("first", x.sign(0, 0), 'a');
        due("last", x.sign(0, 1), 'b');
        due("behind it", x.sign(0, 2), -1);
        due("last", x.sign(1, 39), '?');
        due("behind it", x.sign(1, 40), -1);
        due("drum 2", x.sign(2, 0), -1);
        for (int n : BEYOND) {
            due("flap " + n, x.sign(0, n), -1);
            due("drum " + n, x.sign(n, 0), -1);
        }
    }

    private static void atAnswers() {
        promise(22, "SHOWS (what 0), BELIEVES (1), WANTS (2); NONE without these");
        due("without a board", x.at(0, 0, 0), -1);
        told("board 2 3 limit 9;drum 1 'abcd';drum 1 'wxyz';cells 3 5 1;lose 5 1", 2);
        row(1, "xyz");
        x.tick(1);
        due("shows", x.at(1, 2, 0), 'w');
        due("believes", x.at(1, 2, 1), 'x');
        due("wants", x.at(1, 2, 2), 'z');
        due("shows", x.at(1, 0, 0), 'x');
        due("first", x.at(0, 0, 0), 'a');
        due("what 3", x.at(0, 0, 3), -1);
        due("row 2", x.at(2, 0, 0), -1);
        due("column 3 is not the next row's first", x.at(0, 3, 0), -1);
        due("column -1 is not the last row's last", x.at(1, -1, 0), -1);
        for (int n : BEYOND) {
            due("what " + n, x.at(0, 0, n), -1);
            due("row " + n, x.at(n, 0, 0), -1);
            due("column " + n, x.at(0, n, 0), -1);
        }
    }

    private static void whichCells() {
        promise(23, "NONE for others, without a BOARD");
        for (int what = -1; what <= 5; what++) due("without a board", x.which(what), -1);
        told(SMALL, 1);
        for (int what = 0; what <= 4; what++) due("no cell", x.which(what), 0);
        due("what 5", x.which(5), -1);
        for (int n : BEYOND) due("what " + n, x.which(n), -1);

        promise(23, "CELLS, as bits, what 0: with something LEFT, 1: that SHOW another FLAP than they BELIEVE");
        told("board 4 10 limit 3;drum 4 'abcb';drum 3 'abcd';cells 39 39 1;lose 39 1", 2);
        row(3, "bbbbbbbbbd");
        due("left", x.which(0), 0x3FFL << 30);
        due("turn", x.which(3), 1L << 39);
        due("above the limit, not at it", x.which(4), (1L << 39) - 1);
        x.tick(1);
        due("show another flap", x.which(1), 1L << 39);

        promise(23, "2: that SHOW another SIGN than they WANT");
        told("board 1 3 limit 9;drum 1 'abb'", 1);
        row(0, "bb");
        x.settle();
        x.wear(0, 1);
        row(0, "b");
        due("left", x.which(0), 0b011);
        due("another flap, the same sign", x.which(2), 0b010);

        promise(23, "3: that would TURN in the next TICK, 4: whose CURRENT is above LIMIT");
        told("board 1 4 limit 5;drum 5 'ab';drum 6 'ab';cells 1 2 1", 2);
        row(0, " bbb");
        due("left", x.which(0), 0b1110);
        due("turn", x.which(3), 0b1000);
        due("above", x.which(4), 0b0110);
        x.limit(4);
        due("none turns", x.which(3), 0);
        due("all above, those with nothing left, too", x.which(4), 0b1111);
    }

    private static void lefts() {
        promise(24, "3: the least number of TICKS by these and LIMIT (the greater of 1, and of 2 by LIMIT, upwards)");
        told("board 1 3 limit 5;drum 2 'abcdef';drum 3 'abcd';cells 2 2 1", 2);
        for (int what = 0; what < 4; what++) due("nothing left", x.left(what), 0);
        row(0, "cbd");
        // 2 + 1 + 3, by currents 4 + 2 + 9
        int[] due = {6, 3, 15, 3};
        for (int what = 0; what < 4; what++) due("left " + what, x.left(what), due[what]);
        x.limit(4);
        due("15 by 4, upwards", x.left(3), 4);
        x.limit(1);
        due("15 by 1", x.left(3), 15);
        x.limit(14);
        due("the most of one", x.left(3), 3);
        x.limit(99);
        due("the most of one", x.left(3), 3);

        promise(24, "NONE for others, without a BOARD");
        for (int what = -1; what <= 4; what++) due("without a board", x.left(what), -1);
        told(SMALL, 1);
        due("what 4", x.left(4), -1);
        for (int n : BEYOND) due("what " + n, x.left(n), -1);

        promise(24, "1: the most of one");
        told("board 4 10 limit 9;drum 9 '" + SIGNS + "'", 1);
        row(0, "?");
        due("of the first cell", x.left(1), 39);
        row(0, "");
        row(3, "         ?");
        due("of the last cell", x.left(1), 39);
        row(3, "????????? ");
        due("together", x.left(0), 9 * 39);
        due("times current", x.left(2), 9 * 9 * 39);
    }

    private static void whens() {
        promise(25, "Were TICKS done till none TURNS");
        told("board 1 3 limit 5;drum 3 'abcd';drum 2 'abcd';cells 1 2 1;lose 0 1", 2);
        for (int what = 0; what < 6; what++) due("nothing is left, " + what, x.when(what), 0);
        row(0, "bdc");
        // lefts 1 3 2: cells 1 and 2 turn (4); 1 2 1: 1, then 0 (5), 2 waits; 0 1 1: 1 and 2 (4)
        int[] due = {3, 6, 12, 5, 1, 0};
        for (int what = 0; what < 6; what++) due("when " + what, x.when(what), due[what]);
        due("nothing was done", x.total(1), 0);
        due("loses still", x.cell(0, 5), 1);
        x.settle();
        row(0, "adc");
        // it shows home, believes 1: left 3; home is shown again as it is believed to be one farther on
        due("steps", x.when(1), 3);
        due("shows another", x.when(4), 1);
        due("nothing found", x.when(5), 0);
        x.settle();
        row(0, "cdc");
        due("steps", x.when(1), 3);
        due("found", x.when(5), 1);
        due("all are right then", x.when(4), 0);
        due("nothing was found yet", x.total(3), 0);
        // above the limit: none turns, and it shows another sign
        x.limit(1);
        int[] none = {0, 0, 0, 0, 1, 0};
        for (int what = 0; what < 6; what++) due("none turns, " + what, x.when(what), none[what]);

        promise(25, "3: the most CURRENT at once");
        told("board 1 3 limit 9;drum 9 'abcd';drum 1 'abcd';cells 1 2 1", 2);
        row(0, " dd");
        due("two of 1", x.when(3), 2);
        row(0, "bdd");
        // first the two, then the one of 9 alone
        due("one of 9", x.when(3), 9);
        x.limit(8);
        due("it cannot turn", x.when(3), 2);

        promise(25, "4: CELLS that SHOW another SIGN than they WANT then");
        told("board 4 10 limit 8;drum 9 'ab'", 1);
        run("row 0 'bbbbbbbbbb';row 1 'bbbbbbbbbb';row 2 'bbbbbbbbbb';row 3 'bbbbbbbbbb'");
        due("none can turn", x.when(4), 40);
        x.limit(9);
        due("all can", x.when(4), 0);

        promise(25, "NONE for others, without a BOARD");
        for (int what = -1; what <= 6; what++) due("without a board", x.when(what), -1);
        told(SMALL, 1);
        due("what 6", x.when(6), -1);
        for (int n : BEYOND) due("what " + n, x.when(n), -1);
    }

    private static void loudests() {
        promise(26, "what 0: the first TICK (from 0 on) with the greatest CLATTER, 1: that");
        told(SMALL, 1);
        row(0, "dd");
        due("the first of three", x.loudest(0), 0);
        due("clatter", x.loudest(1), 4);
        told("board 1 3 limit 4;drum 4 'abc';drum 2 'xyz';cells 1 2 1", 2);
        row(0, "cyy");
        due("the last", x.loudest(0), 2);
        due("clatter", x.loudest(1), 4);
        due("nothing was done", x.total(1), 0);

        promise(26, "-2: none TURNS; NONE for others, without a BOARD");
        for (int what = -1; what <= 2; what++) due("without a board", x.loudest(what), -1);
        told("board 1 1 limit 4;drum 5 'ab'", 1);
        due("nothing left", x.loudest(0), -2);
        due("nothing left", x.loudest(1), -2);
        row(0, "b");
        due("above the limit", x.loudest(0), -2);
        due("above the limit", x.loudest(1), -2);
        due("what 2", x.loudest(2), -1);
        x.limit(5);
        due("at the limit", x.loudest(1), 1);
        for (int n : BEYOND) due("what " + n, x.loudest(n), -1);
    }

    private static void totals() {
        promise(27, "CLATTER of all TICKS since the BOARD was told (what 0; ints, which go round), TICKS in which one TURNED (1)");
        told(SMALL + ";lose 0 1", 1);
        for (int what = 0; what < 4; what++) due("nothing yet", x.total(what), 0);
        row(0, "dd");
        x.tick(99);
        // cell 0 shows c and believes d: it comes to show home believing b, the one it wants
        row(0, "bd");
        run("wait 2;settle;wait 99");
        due("clatter", x.total(0), 3 * 4 + 3);
        due("ticks", x.total(1), 6);
        due("steps", x.total(2), 9);
        due("found", x.total(3), 1);
        x.settle();
        due("none turned", x.total(1), 6);
        told(SMALL, 1);
        for (int what = 0; what < 4; what++) due("told anew", x.total(what), 0);

        promise(27, "NONE for others, without a BOARD");
        for (int what = -1; what <= 4; what++) due("without a board", x.total(what), -1);
        told(SMALL, 1);
        due("what 4", x.total(4), -1);
        for (int n : BEYOND) due("what " + n, x.total(n), -1);
    }

    private static void costs() {
        promise(28, "a ROW would be turned if it WANTED the SIGNS on the TAPE (which stays): those that MISS count 0");
        told("board 2 3 limit 9;drum 1 'abcd';row 0 'dcb';worn 1 3", 1);
        tape("acb");
        due("round about", x.cost(0), 1);
        due("another row", x.cost(1), 3);
        told("board 2 3 limit 9;drum 1 'abcd';row 0 'dcb';row 1 'ddd';worn 1 3", 1);
        tape("acb");
        due("the row alone", x.cost(0), 1);
        due("another row", x.cost(1), 1 + 3 + 2);
        tape("a");
        due("home behind it", x.cost(0), 1 + 2 + 3);
        tape("");
        due("home all", x.cost(0), 1 + 2 + 3);
        tape("xdx");
        due("all miss", x.cost(0), 0);
        tape("dxb");
        due("as it is, one misses", x.cost(0), 0);
        due("tape", x.count(6), 3);
        // what is missed counts 0, though something is left
        row(0, "aaa");
        tape("xxx");
        due("all miss", x.cost(0), 0);
        shown("nothing was wanted", letters(1), "aaa/ddd");
        due("log", x.log(0, 1), 3);

        promise(28, "-2: as row(); NONE without that ROW");
        due("without a board", x.cost(0), -1);
        told(SMALL, 1);
        tape("ddd");
        due("more than wide", x.cost(0), -2);
        due("row 2", x.cost(2), -1);
        tape("d'");
        due("no sign", x.cost(0), -2);
        tape("\u007f");
        due("no sign", x.cost(0), -2);
        tape("dd");
        due("just as many", x.cost(1), 6);
        for (int n : BEYOND) due("row " + n, x.cost(n), -1);
    }

    private static void bests() {
        promise(29, "the one of least cost() in a ROW, of those the fewest of which MISS, of several the first");
        told("board 2 3 limit 9;drum 1 'abcd'", 1);
        tape("bcd/b/cc");
        due("least cost", x.best(0, 0), 1);
        due("cost", x.best(0, 1), 1);
        due("misses", x.best(0, 2), 0);
        tape("b/xxx/x");
        due("least cost first, then fewest", x.best(0, 0), 2);
        due("cost", x.best(0, 1), 0);
        due("misses", x.best(0, 2), 1);
        tape("xb/bx/b/ab");
        due("fewest, the first of two", x.best(0, 0), 2);
        due("misses", x.best(0, 2), 0);
        due("tape", x.count(6), 10);

        promise(29, "2: how many MISS");
        told(SAMPLE, 2);
        tape("xyz");
        due("all of one row", x.best(0, 2), 3);
        due("none of the other", x.best(1, 2), 0);
        told("board 4 10 limit 9;drum 1 'ab';drum 1 'ax';cells 31 39 1", 2);
        tape("bxxxxxxxxx");
        due("none of the last row", x.best(3, 2), 0);
        tape("xxxxxxxxxb/bbbbbbbbbb/x");
        due("those that stand where they cannot", x.best(3, 0), 2);
        due("one", x.best(3, 2), 1);
        tape("xb/bx");
        due("both of the first", x.best(3, 0), 0);
        due("both of the first", x.best(3, 2), 2);

        promise(29, "Of some WORDS on the TAPE (which stays), with / (47) between");
        told("board 2 3 limit 9;drum 1 'abcd';row 0 'bcd'", 1);
        tape("");
        due("nothing is one word", x.best(0, 0), 0);
        due("all home", x.best(0, 1), 3 + 2 + 1);
        tape("/bcd");
        due("an empty one first", x.best(0, 0), 1);
        tape("d/");
        due("an empty one last", x.best(0, 0), 0);
        due("cost", x.best(0, 1), 2 + 2 + 1);
        tape("////bcd");
        due("the fifth", x.best(0, 0), 4);
        tape("/".repeat(396) + "bcd/");
        due("four hundred bytes", x.best(0, 0), 396);
        due("cost", x.best(0, 1), 0);

        promise(29, "-2: some is not as row(); NONE without these");
        due("without a board", x.best(0, 0), -1);
        told(SMALL, 1);
        tape("bb/bbb");
        due("the last is too long", x.best(0, 0), -2);
        tape("bbb/bb");
        due("the first is too long", x.best(0, 0), -2);
        tape("b/'/b");
        due("no sign", x.best(0, 0), -2);
        tape("b/b\u001f");
        due("no sign", x.best(0, 2), -2);
        due("what 3", x.best(0, 3), -1);
        due("row 2", x.best(2, 0), -1);
        for (int n : BEYOND) {
            due("what " + n, x.best(0, n), -1);
            due("row " + n, x.best(n, 0), -1);
        }
    }

    private static void places() {
        promise(30, "the column by which fewest MISS, of these that with the least cost, of several the first");
        told("board 2 4 limit 9;drum 1 'abcd';drum 1 'axyz';cells 1 1 1;row 0 'aaab';worn 2 1", 2);
        tape("b");
        // from 0: 1 + 3 behind; from 1, 2: missed; from 3: 0
        due("the last column", x.place(0, 0), 3);
        due("cost", x.place(0, 1), 0);
        tape("bb");
        // from 0: 1 missed, from 1: both, from 2: the worn one
        due("fewest, then the least cost", x.place(0, 0), 2);
        due("cost", x.place(0, 1), 0);
        tape("cc");
        // from 2 none misses: 2 + 1
        due("fewest, though it costs more", x.place(0, 0), 2);
        due("cost", x.place(0, 1), 3);
        tape("a");
        due("of several the first", x.place(1, 0), 0);
        due("cost", x.place(1, 1), 0);
        tape("b");
        due("of several the first", x.place(1, 0), 0);
        due("the others want home", x.place(1, 1), 1);
        tape("axcb");
        due("as many as wide", x.place(0, 0), 0);
        due("cost", x.place(0, 1), 1 + 2);
        due("tape", x.count(6), 4);
        tape("qqqq");
        due("all miss", x.place(0, 0), 0);
        due("cost", x.place(0, 1), 0);

        promise(30, "The word on the TAPE (which stays; 1 SIGN and more) stands in a ROW from some column on, all others WANT HOME");
        told("board 2 3 limit 9;drum 1 'ab';drum 1 'ax';cells 1 1 1;row 1 'bbb'", 2);
        tape("xb");
        // from 0 both miss, from 1 none; in the other row all are of the first drum
        due("sign by sign", x.place(0, 0), 1);
        due("cost", x.place(0, 1), 2);
        due("one misses anywhere", x.place(1, 0), 0);
        due("cost", x.place(1, 1), 1);
        told("board 1 3 limit 9;drum 1 'abcd';row 0 'aab'", 1);
        tape("b");
        due("the last one costs least", x.place(0, 0), 2);
        due("cost", x.place(0, 1), 0);
        told("board 1 2 limit 9;drum 1 'abcd';drum 1 'axyz';cells 1 1 1", 2);
        tape("d");
        due("none misses, at more cost", x.place(0, 0), 0);
        due("cost", x.place(0, 1), 3);
        told("board 4 10 limit 9;drum 1 'abcd';row 3 '         d'", 1);
        due("the tape is empty", x.place(3, 0), -2);
        tape("d");
        due("the last cell of all", x.place(3, 0), 9);

        promise(30, "-2: as row(), or there is no SIGN; NONE without these");
        tape("b");
        due("without a board", x.place(0, 0), -1);
        told(SMALL, 1);
        due("no sign is there", x.place(0, 0), -2);
        due("no sign is there", x.place(0, 1), -2);
        tape("bbb");
        due("more than wide", x.place(0, 0), -2);
        tape("b'");
        due("no sign", x.place(0, 0), -2);
        due("what 2", x.place(0, 2), -1);
        due("row 2", x.place(2, 0), -1);
        for (int n : BEYOND) {
            due("what " + n, x.place(0, n), -1);
            due("row " + n, x.place(n, 0), -1);
        }
    }

    private static void logs() {
        promise(31, "JOURNEY of a DRUM (what 0), how many LOG has (1), how many unlike ones (2); NONE without these");
        due("without a board", x.log(0, 0), -1);
        told("board 1 3 limit 9;drum 1 'abcd';drum 1 'abcd'", 2);
        for (int what = 0; what < 3; what++) due("nothing yet", x.log(0, what), 0);
        row(0, "ddb");
        int[] due = {7, 3, 2};
        for (int what = 0; what < 3; what++) due("log " + what, x.log(0, what), due[what]);
        for (int what = 0; what < 3; what++) due("another drum", x.log(1, what), 0);
        x.settle();
        row(0, "aad");
        // 3 to 0 twice, 1 to 3
        int[] then = {11, 6, 4};
        for (int what = 0; what < 3; what++) due("log " + what, x.log(0, what), then[what]);
        // no drum's log goes into another one's: from home, from the last flap
        told("board 1 3 limit 9;drum 1 'ab';drum 1 'abcd';drum 1 'ab';cells 1 1 1;cells 2 2 2;row 0 'bdb'", 3);
        row(0, "aca");
        x.settle();
        row(0, "bdb");
        int[][] each = {{2, 2, 2}, {4, 2, 2}, {2, 2, 2}};
        for (int drum = 0; drum < 3; drum++) {
            for (int what = 0; what < 3; what++) due("log " + drum + ", " + what, x.log(drum, what), each[drum][what]);
        }
        due("what 3", x.log(0, 3), -1);
        due("drum 3", x.log(3, 0), -1);
        for (int n : BEYOND) {
            due("what " + n, x.log(0, n), -1);
            due("drum " + n, x.log(n, 0), -1);
        }
    }

    private static void oftens() {
        promise(32, "How often LOG of a DRUM has a FLAP as that from which (to false), to which; NONE without these");
        due("without a board", x.often(0, 0, true), -1);
        told("board 1 3 limit 9;drum 1 'abcd';drum 1 '" + SIGNS + "';cells 2 2 1", 2);
        row(0, "dd?");
        row(0, "b??");
        due("from home", x.often(0, 0, false), 3);
        due("to home", x.often(0, 0, true), 0);
        due("to 3", x.often(0, 3, true), 2);
        due("from 3", x.often(0, 3, false), 0);
        due("to 1", x.often(0, 1, true), 1);
        due("from 1", x.often(0, 1, false), 0);
        due("to 2", x.often(0, 2, true), 0);
        due("from 2", x.often(0, 2, false), 0);
        due("to home", x.often(1, 0, true), 0);
        due("from 1", x.often(1, 1, false), 0);
        due("to 39", x.often(1, 39, true), 2);
        due("from home", x.often(1, 0, false), 2);
        due("flap 4", x.often(0, 4, true), -1);
        due("flap 40", x.often(1, 40, false), -1);
        due("drum 2", x.often(2, 0, true), -1);
        for (int n : BEYOND) {
            due("flap " + n, x.often(0, n, true), -1);
            due("drum " + n, x.often(n, 0, false), -1);
        }
    }

    private static void usuals() {
        promise(33, "The FLAP to which LOG of a DRUM has most entries, of several the least");
        told("board 1 3 limit 9;drum 1 'abcd'", 1);
        row(0, "dcb");
        due("of three the least", x.usual(0, 0), 1);
        due("how many", x.usual(0, 1), 1);
        row(0, "dc");
        due("of two the least", x.usual(0, 0), 2);
        due("how many", x.usual(0, 1), 2);
        row(0, "d");
        due("most", x.usual(0, 0), 3);
        due("how many", x.usual(0, 1), 3);
        x.settle();
        row(0, "");
        row(0, "");
        row(0, "");
        due("home", x.usual(0, 0), 0);
        due("how many", x.usual(0, 1), 3);

        promise(33, "-2: LOG is empty; NONE without these");
        due("without a board", x.usual(0, 0), -1);
        told("board 1 2 limit 9;drum 1 'abcd';drum 1 'abcd'", 2);
        row(0, "b");
        due("empty", x.usual(1, 0), -2);
        due("empty", x.usual(1, 1), -2);
        due("not empty", x.usual(0, 1), 1);
        due("what 2", x.usual(0, 2), -1);
        due("drum 2", x.usual(2, 0), -1);
        for (int n : BEYOND) {
            due("what " + n, x.usual(0, n), -1);
            due("drum " + n, x.usual(n, 0), -1);
        }
    }

    private static void better(int journey, int first, int second) {
        due("journey then", x.better(0, 0), journey);
        due("first", x.better(0, 1), first);
        due("second", x.better(0, 2), second);
    }

    private static void betters() {
        promise(34, "would be least, of several the least first one, then the least second one");
        told("board 1 1 limit 9;drum 1 'abcd'", 1);
        row(0, "d");
        // 0 to 3: by 1 and 3 one flap on
        better(1, 1, 3);
        told("board 1 1 limit 9;drum 1 'abcd'", 1);
        row(0, "c");
        // one less
        better(1, 1, 2);
        told("board 1 1 limit 9;drum 1 'abcde';row 0 'b'", 1);
        row(0, "e");
        // 1 to 4: by 1 and 3, by 2 and 4 beside one another
        better(1, 1, 3);
        told("board 1 1 limit 9;drum 1 'abcde';row 0 'e'", 1);
        row(0, "");
        due("one flap on already", x.better(0, 0), -2);
        row(0, "d");
        // 4 to 0, 4 to 3: 1 + 4; 1 and 3: 1 + 2, 2 and 3: 1 + 3, 1 and 4: 4 + 2, 2 and 4: 3 + 1, 3 and 4: 2 + 1
        better(3, 1, 3);
        told("board 1 1 limit 9;drum 1 'abcdef';row 0 'b'", 1);
        row(0, "f");
        row(0, "f");
        row(0, "c");
        // 1 to 5 twice, 1 to 2: 9; 1 and 4: 2 + 4, 2 and 5: 2 + 4, 1 and 3: 4 + 5, 3 and 5: 4 + 1, 4 and 5: 6 + 1
        better(5, 3, 5);

        promise(34, "The two FLAPS of a DRUM (neither HOME) that had better changed places");
        told("board 1 1 limit 9;drum 1 'abcd';row 0 'b'", 1);
        row(0, "");
        // 1 to 0: 3; by home and 1 it would be 1, too, and the least first one
        better(1, 1, 3);
        told("board 1 1 limit 9;drum 1 'abc';row 0 'c'", 1);
        row(0, "b");
        row(0, "");
        // 2 to 1, 2 to 0: 2 + 1; 1 and 2: 1 + 2; home and 1: 1 + 2, home and 2: 1 + 2
        due("no less", x.better(0, 0), -2);

        promise(34, "(each entry by where its FLAPS would be then)");
        told("board 1 2 limit 9;drum 1 'abcd';row 0 'bd'", 1);
        row(0, "db");
        due("there and back: a whole round wherever they are", x.better(0, 0), -2);
        told("board 1 1 limit 9;drum 1 'abcd';row 0 'd'", 1);
        row(0, "b");
        // 3 to 1: 2; both change: 1 to 3: 2; 1 and 2: 3 to 2 is 3; 2 and 3: 2 to 1 is 3
        due("two that go from one to the other", x.better(0, 0), -2);
        told("board 1 1 limit 9;drum 1 'abcd';row 0 'c'", 1);
        row(0, "b");
        // 2 to 1: 3; by 1 and 2: 1 to 2, 1
        better(1, 1, 2);

        promise(34, "-2: no two make it less; NONE without these");
        due("without a board", x.better(0, 0), -1);
        told("board 1 2 limit 9;drum 1 'abcd';drum 1 'ab';cells 1 1 1", 2);
        due("empty", x.better(0, 0), -2);
        row(0, "bb");
        for (int what = 0; what < 3; what++) {
            due("one flap on is the least", x.better(0, what), -2);
            due("of two flaps none can", x.better(1, what), -2);
        }
        due("what 3", x.better(0, 3), -1);
        due("drum 2", x.better(2, 0), -1);
        for (int n : BEYOND) {
            due("what " + n, x.better(0, n), -1);
            due("drum " + n, x.better(n, 0), -1);
        }
    }

    private static void farthests() {
        promise(35, "The SIGN with the greatest number of FLAPS on, from what a CELL BELIEVES (as it would be WANTED; MISSED ones aside)");
        told("board 1 2 limit 9;drum 1 'abcb';row 0 'c'", 1);
        // from 2: c 0, b 1, a 2; the b that is 3 on is not the one that would be wanted
        due("how many", x.farthest(0, 0), 2);
        due("sign", x.farthest(0, 1), 'a');
        x.wear(0, 3);
        due("the other b", x.farthest(0, 0), 3);
        due("sign", x.farthest(0, 1), 'b');
        x.wear(0, 1);
        due("b is missed", x.farthest(0, 0), 2);
        due("sign", x.farthest(0, 1), 'a');
        due("from home", x.farthest(1, 0), 2);
        due("sign", x.farthest(1, 1), 'c');
        x.wear(1, 1);
        x.wear(1, 2);
        x.wear(1, 3);
        due("home alone", x.farthest(1, 0), 0);
        due("sign", x.farthest(1, 1), 'a');
        // from what it believes, not from what it shows
        told("board 1 1 limit 9;drum 1 'abcd';lose 0 2", 1);
        row(0, "c");
        x.settle();
        due("sign", x.farthest(0, 1), 'b');

        promise(35, "what 0: how many, 1: the SIGN; NONE without these");
        due("without a board", x.farthest(0, 0), -1);
        told(SMALL, 1);
        due("what 2", x.farthest(0, 2), -1);
        due("cell 4", x.farthest(4, 0), -1);
        for (int n : BEYOND) {
            due("what " + n, x.farthest(0, n), -1);
            due("cell " + n, x.farthest(n, 0), -1);
        }
    }

    private static void lacking() {
        promise(36, "How many of the SIGNS 32 to 126 a CELL would MISS of those that its DRUM has (what 0)");
        told("board 1 2 limit 9;drum 1 'ab b~~';worn 0 1;worn 0 2;worn 0 4", 1);
        due("one flap of b is there", x.lacks(0, 0), 1);
        x.wear(0, 3);
        due("blank and b", x.lacks(0, 0), 2);
        x.wear(0, 5);
        due("~ as well, once", x.lacks(0, 0), 3);
        due("another cell", x.lacks(1, 0), 0);

        promise(36, "that some other DRUM has, but not its own (1)");
        told("board 1 2 limit 9;drum 1 'abc';drum 1 'b ~~';drum 1 'd~a';cells 1 1 1;worn 0 1", 3);
        due("blank, ~ once, d; not the worn b", x.lacks(0, 1), 3);
        due("a, c, d", x.lacks(1, 1), 3);
        told(SMALL, 1);
        due("one drum", x.lacks(0, 1), 0);
        told("board 1 1 limit 9;drum 1 'ab';drum 1 'ca'", 2);
        due("its own home's sign is not lacking, another home's is", x.lacks(0, 1), 1);
        told("board 1 1 limit 9;drum 1 ' b';drum 1 ' b'", 2);
        due("none", x.lacks(0, 1), 0);
        told("board 1 1 limit 9;drum 1 'ab';drum 1 '~ '", 2);
        due("the first and the last sign", x.lacks(0, 1), 2);

        promise(36, "NONE without these");
        due("without a board", x.lacks(0, 0), -1);
        told(SMALL, 1);
        due("what 2", x.lacks(0, 2), -1);
        due("cell 4", x.lacks(4, 0), -1);
        for (int n : BEYOND) {
            due("what " + n, x.lacks(0, n), -1);
            due("cell " + n, x.lacks(n, 0), -1);
        }
    }

    private static void resting() {
        promise(37, "TICKS (0 to 9999) behind which a CELL first has nothing LEFT, if nothing else is done");
        told("board 1 3 limit 1;drum 1 'abcd'", 1);
        row(0, "db");
        // 3 1: cell 0, 0, then 0, 1
        due("nothing left", x.rests(2), 0);
        due("rests", x.rests(0), 3);
        due("rests", x.rests(1), 4);
        due("nothing was done", x.total(1), 0);
        // a lost step that is found makes it longer
        told("board 1 1 limit 1;drum 1 'abcd';lose 0 1", 1);
        row(0, "d");
        x.settle();
        row(0, "c");
        due("left", x.cell(0, 4), 3);
        due("rests", x.rests(0), 4);

        promise(37, "-2: it never has; NONE without it");
        due("without a board", x.rests(0), -1);
        told("board 1 3 limit 2;drum 3 'abcd';drum 1 'abcd';cells 1 1 1", 2);
        row(0, "dd");
        due("above the limit", x.rests(0), -2);
        due("below it", x.rests(1), 3);
        due("above it, with nothing left", x.rests(2), 0);
        x.limit(3);
        // 3 3: cell 0; 2 3: cell 1; 2 2: 0; 1 2: 1; 1 1: 0; 0 1: 1
        due("at the limit", x.rests(0), 5);
        due("in turns with it", x.rests(1), 6);
        due("cell 3", x.rests(3), -1);
        for (int n : BEYOND) due("cell " + n, x.rests(n), -1);
    }

    private static void unlikeRows() {
        promise(38, "the number of CELLS, one above the other, that WANT unlike SIGNS; NONE without these (unlike ones)");
        due("without a board", x.unlike(0, 1), -1);
        told("board 3 3 limit 9;drum 1 'abca';drum 1 'bbca';cells 3 5 1", 2);
        row(0, "aab");
        row(1, "aab");
        row(2, "cba");
        due("like signs on unlike flaps", x.unlike(0, 1), 0);
        due("all", x.unlike(1, 2), 3);
        due("the other way round", x.unlike(2, 1), 3);
        row(2, "caa");
        due("all but one", x.unlike(0, 2), 2);
        due("a row and itself", x.unlike(1, 1), -1);
        due("row 3", x.unlike(0, 3), -1);
        due("row 3", x.unlike(3, 0), -1);
        for (int n : BEYOND) {
            due("row " + n, x.unlike(n, 0), -1);
            due("row " + n, x.unlike(0, n), -1);
        }
    }

    private static void letterAnswers() {
        promise(39, "The k-th byte of what all CELLS SHOW (what 0), WANT (1), ROW by ROW, / between; k NONE: how many");
        told("board 3 2 limit 9;drum 1 'abcd';row 0 'b';row 2 'cd'", 1);
        row(1, "d");
        due("how many", x.letter(0, -1), 8);
        due("how many", x.letter(1, -1), 8);
        shown("shown", letters(0), "ba/aa/cd");
        shown("wanted", letters(1), "ba/da/cd");
        told("board 1 1 limit 9;drum 1 'ab'", 1);
        due("one alone", x.letter(0, -1), 1);
        due("it", x.letter(1, 0), 'a');
        told("board 4 10 limit 9;drum 1 'ab'", 1);
        due("the most", x.letter(0, -1), 43);

        promise(39, "-2: it has not so many; NONE for others");
        told(SMALL, 1);
        due("the last", x.letter(0, 4), 'a');
        due("behind it", x.letter(0, 5), -2);
        due("far behind it", x.letter(1, Integer.MAX_VALUE), -2);
        due("k -2", x.letter(0, -2), -1);
        due("k", x.letter(1, Integer.MIN_VALUE), -1);
        due("what 2", x.letter(2, 0), -1);
        due("what 2", x.letter(2, -1), -1);
        for (int n : BEYOND) due("what " + n, x.letter(n, 0), -1);

        promise(39, "Without a BOARD nothing");
        due("how many", x.letter(0, -1), 0);
        due("how many", x.letter(1, -1), 0);
        due("the first", x.letter(0, 0), -2);
        due("what 2", x.letter(2, -1), -1);
    }

    private static void digests() {
        promise(40, "17 at first; CELL by CELL 31 times it and DRUM, SHOWS, BELIEVES, WANTS, LOSES, one by one, then worn() (longs, which go round)");
        due("without a board", x.digest(), 17);
        told("board 1 1 limit 9;drum 1 'abcd';drum 1 'abcd';cells 0 0 1;lose 0 1;worn 0 2", 2);
        row(0, "d");
        x.tick(1);
        row(0, "b");
        x.tick(1);
        // drum 1, shows 0, believes 1, wants 1, loses 0, worn 4
        long due = 17;
        for (int part : new int[] {1, 0, 1, 1, 0, 4}) due = due * 31 + part;
        due("one cell", x.digest(), due);
        x.lose(0, 9);
        due("it loses nine", x.digest(), due + 9 * 31);
        told("board 4 10 limit 10;drum 1 '" + SIGNS + "'", 1);
        row(3, "??????????");
        x.tick(5);
        for (int flap = 1; flap < 39; flap++) x.wear(39, flap);
        BigInteger sum = BigInteger.valueOf(17);
        for (int cell = 0; cell < 40; cell++) {
            boolean below = cell < 30;
            long[] parts = {0, below ? 0 : 5, below ? 0 : 5, below ? 0 : 39, 0, cell < 39 ? 0 : (1L << 39) - 2};
            for (long part : parts) sum = sum.multiply(BigInteger.valueOf(31)).add(BigInteger.valueOf(part));
        }
        due("forty cells", x.digest(), sum.longValue());
    }

    private static void counts() {
        promise(41, "0: ROWS, 1: WIDE, 2: CELLS, 3: LIMIT, 4: DRUMS, 5: ACTS that can be UNDONE, 6: bytes of the TAPE");
        for (int what = 0; what < 9; what++) due("without a board", x.count(what), 0);
        told("board 2 3 limit 4;drum 2 ' abc';drum 3 ' xyxz'", 2);
        row(0, "cab");
        x.keep(1);
        tape("abcd");
        int[] due = {2, 3, 6, 4, 2, 1, 4, 2, 2};
        for (int what = 0; what < 9; what++) due("count " + what, x.count(what), due[what]);
        x.keep(0);
        due("both shelves", x.count(7), 3);

        promise(41, "7: SHELVES on which something is KEPT, as bits");
        due("none", x.count(7), 0);
        x.keep(2);
        due("none", x.count(7), 0);
        x.keep(1);
        due("the second", x.count(7), 2);
        x.back(1);
        due("the second still", x.count(7), 2);
        x.keep(0);
        due("both", x.count(7), 3);

        promise(41, "8: CELLS that TURN in the next TICK. NONE for others");
        told("board 4 10 limit 40;drum 1 'ab';drum 9 'ab'", 2);
        due("none", x.count(8), 0);
        run("row 0 'bbbbbbbbbb';row 1 'bbbbbbbbbb';row 2 'bbbbbbbbbb';row 3 'bbbbbbbbbb'");
        due("all", x.count(8), 40);
        x.limit(39);
        due("all but one", x.count(8), 39);
        x.limit(1);
        due("one", x.count(8), 1);
        due("what 9", x.count(9), -1);
        for (int n : BEYOND) due("what " + n, x.count(n), -1);
    }
}
