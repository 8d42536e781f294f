/** Sentences about programs, acts, shelves, the tape and which answer goes ahead of another, each with its boundary cases. */
public final class ProgramSentencesTest extends Sentences {
    /** Two rows of two cells, four flaps each. */
    private static final String SMALL = "board 2 2 limit 9;drum 1 'abcd'";
    /** Three cells of which one turns at a time, 117 ticks in all from home to the last flap. */
    private static final String LONG = "board 1 3 limit 1;drum 1 '012345678901234567890123456789012345678x'";

    public static void main(String[] args) {
        lengths();
        rowsAndScrolls();
        homes();
        waits();
        settles();
        loses();
        times();
        faultsAsTold();
        quotedFaults();
        openBrackets();
        mostSteps();
        acts();
        noActs();
        lastTen();
        shelves();
        ahead();
        tapes();
        finishAll();
    }

    private static void lengths() {
        on("A PROGRAM is a text of at most 400 bytes");
        told(SMALL, 1);
        ran("settle" + " ".repeat(394), 1);
        ran(" ".repeat(394) + "settle", 1);
        // as many steps as there is room for
        ran("home0;".repeat(66) + "row0", -2 - (8 * 400 + 1));
        ran("home0;".repeat(65) + "lose3 9   ", 66);
        due("the last one is done", x.cell(3, 5), 9);
        ran("wait1;".repeat(65) + "home1", 66);
        runFault("", 0, 1);
        runFault(" ".repeat(400), 400, 1);

        on("STEP { ; STEP }");
        ranOn(SMALL, "settle", 1);
        ranOn(SMALL, "settle ; settle", 2);
        runFault(";settle", 0, 1);
        runFault("settle;", 7, 1);
        runFault("settle;;settle", 7, 1);
        runFault("settle settle", 7, 1);
    }

    private static void ranOn(String board, String program, int steps) {
        told(board, 1);
        ran(program, steps);
    }

    private static void rowsAndScrolls() {
        on("row ROW QUOTED | scroll QUOTED | home ROW");
        told(SMALL, 1);
        ran("row 1 'bc'", 1);
        shown("wanted", letters(1), "aa/bc");
        ran("row 0 '';row 1 'd'", 2);
        shown("wanted", letters(1), "aa/da");
        ran("row 1 'xb'", 1);
        shown("missed", letters(1), "aa/db");
        ran("scroll 'cc'", 1);
        shown("wanted", letters(1), "db/cc");
        ran("scroll ''", 1);
        shown("wanted", letters(1), "cc/aa");
        runFault("row 2 ''", 4, 2);
        runFault("row '' 0", 4, 1);
        runFault("scroll 0 ''", 7, 1);
    }

    private static void homes() {
        on("home ROW (its CELLS WANT HOME)");
        told(SMALL + ";row 0 'bc';row 1 'cd'", 1);
        ran("home 0", 1);
        shown("wanted", letters(1), "aa/cd");
        x.undo();
        ran("home 1", 1);
        shown("wanted", letters(1), "bc/aa");
        due("left", x.left(0), 3);
        due("not in the log", x.log(0, 1), 0);
        ran("home 0", 1);
        shown("wanted", letters(1), "aa/aa");
        shown("shown still", letters(0), "bc/cd");
        runFault("home 2", 5, 2);
        runFault("home", 4, 1);
        runFault("home 0 ''", 7, 1);
    }

    private static void waits() {
        on("wait NUMBER (1 to 99 TICKS)");
        told(LONG, 1);
        row(0, "xxx");
        ran("wait 1", 1);
        due("ticks", x.total(1), 1);
        ran("wait 99", 1);
        due("ticks", x.total(1), 100);
        due("left", x.left(0), 17);
        runFault("wait 0", 5, 2);
        runFault("wait 100", 5, 2);
        due("ticks", x.total(1), 100);
        ran("wait 99", 1);
        due("only those in which one turned", x.total(1), 117);
    }

    private static void settles() {
        on("settle (TICKS till none TURNS)");
        told(LONG, 1);
        row(0, "xxx");
        ran("settle", 1);
        due("ticks", x.total(1), 117);
        due("left", x.left(0), 0);
        ran("settle", 1);
        due("none turns", x.total(1), 117);
        told("board 1 2 limit 1;drum 2 'ab';drum 1 'ab';cells 1 1 1", 2);
        row(0, "bb");
        ran("settle", 1);
        due("one is above the limit", x.which(0), 1);
        runFault("settle 1", 7, 1);
    }

    private static void loses() {
        on("settle (TICKS till none TURNS) | lose CELL NUMBER (0 to 9)");
        told(SMALL, 1);
        ran("lose 0 9;lose 3 1", 2);
        cells(5, 9, 0, 0, 1);
        ran("lose 0 0;lose 3 1", 2);
        cells(5, 0, 0, 0, 1);
        runFault("lose 4 1", 5, 2);
        runFault("lose 0 10", 7, 2);
        runFault("lose 0", 6, 1);
    }

    private static void times() {
        on("times NUMBER ( STEP { ; STEP } ) (0 to 20)");
        told(SMALL, 1);
        ran("times 0 (lose 0 1);lose 1 1", 2);
        cells(5, 0, 1, 0, 0);
        ran("times 1 (lose 0 1)", 2);
        cells(5, 1, 1, 0, 0);
        ran("times 20 (lose 2 2)", 21);
        ran("times 20(lose 2 3 ; lose 2 4 ) ", 41);
        cells(5, 1, 1, 4, 0);
        runFault("times 21 (settle)", 6, 2);
        runFault("times (settle)", 6, 1);
        runFault("times 2 settle", 8, 1);
        runFault("times 2 ()", 9, 1);
        runFault("times 2 (settle;)", 16, 1);
        runFault("times 2 (settle", 15, 1);
        runFault("times 2 (settle)settle", 16, 1);
        runFault("times 2 (settle))", 16, 1);
        runFault("times 2 (", 9, 1);
        runFault("times 0 (x)", 9, 1);
        runFault("(settle)", 0, 1);
        // each time anew: one flap more
        told("board 1 1 limit 9;drum 1 'ababab'", 1);
        ran("times 2 (row 0 'b';settle;row 0 'a';settle)", 9);
        due("shows", x.cell(0, 1), 4);
        // what is left of an outer one goes on behind an inner one; an inner one begins anew
        ran("times 2 (times 3 (row 0 'b';settle;row 0 'a';settle);lose 0 0)", 29);
        due("steps", x.cell(0, 6), 4 + 12);
        ran("times 2 (times 0 (settle);times 2 (settle))", 1 + 2 * (1 + 1 + 2));
    }

    private static void faultsAsTold() {
        on("FAULT as told");
        told(SMALL, 1);
        runFault("ro 0 'a'", 0, 1);
        runFault("Row 0 'a'", 0, 1);
        runFault(" rows 0 'a'", 1, 1);
        runFault("board 1 1 limit 5", 0, 1);
        for (String word : new String[] {"drum", "cells", "worn", "limit", "board"}) runFault("settle;" + word, 7, 1);
        for (String word : new String[] {"row", "scroll", "home", "wait", "settle", "lose", "times"}) {
            for (int k = 0; k < word.length(); k++) {
                runFault("wait 1;" + word.substring(0, k) + "q" + word.substring(k + 1) + " 0", 7, 1);
            }
        }
        runFault("wait x", 5, 1);
        runFault("wait", 4, 1);
        runFault("wait  ", 6, 1);
        runFault("wait 4294967297", 5, 2);
        runFault("row 0", 5, 1);
        runFault("row 0 '", 7, 1);
        runFault("settle\t", 6, 1);
        runFault("settle;row 9 'aaaa", 11, 2);
        due("nothing was done", x.count(5), 0);
    }

    private static void quotedFaults() {
        on("QUOTED by its ROW (scroll: beyond WIDE)");
        told(SMALL, 1);
        runFault("row 0 'abc'", 9, 2);
        runFault("row 1 'abc", 9, 2);
        runFault("scroll 'abc'", 10, 2);
        runFault("scroll 'ab\u0001'", 10, 1);
        runFault("row 0 'ab\u007f'", 9, 1);
        runFault("row 0 'a\u001f'", 8, 1);
        ran("row 0 'ab';scroll 'ab'", 2);
        told("board 1 10 limit 9;drum 1 'ab'", 1);
        ran("row 0 'bbbbbbbbbb';scroll 'aaaaaaaaaa'", 2);
        runFault("scroll 'aaaaaaaaaab'", 18, 2);
    }

    private static void openBrackets() {
        on("3 the fourth ( that is open at once");
        told(SMALL, 1);
        ran("times 1 (times 1 (times 1 (settle)))", 4);
        runFault("times 1 (times 1 (times 1 (times 1 (settle))))", 35, 3);
        runFault("times 0(times 0(times 0(times 0 (", 32, 3);
        // no more than three are open at once
        ran("times 1 (times 1 (times 1 (settle);times 1 (settle)));times 1 (settle)", 8);
        ran("times 1(settle);times 1(settle);times 1(settle);times 1(settle);times 1(settle)", 10);
        // the number ahead of it, and a byte that is none
        runFault("times 1(times 1(times 1(times 21 (", 30, 2);
        runFault("times 1(times 1(times 1(times 1 settle", 32, 1);
    }

    private static void mostSteps() {
        on("At most 200 of its STEPS are done (times, too, counts each time it is come to), the others not");
        told(SMALL, 1);
        // 1 + 20 * 9 = 181, 18 more are 199
        String most = "times 20 (settle;settle;settle;settle;settle;settle;settle;settle;settle)";
        String eighteen = ";times 17 (settle)";
        ran(most, 181);
        ran(most + eighteen, 199);
        ran(most + eighteen + ";lose 0 1", 200);
        due("the 200th is done", x.cell(0, 5), 1);
        ran(most + eighteen + ";lose 0 2;lose 0 3", 200);
        due("the 201st is not", x.cell(0, 5), 2);
        ran(most + eighteen + ";times 5 (lose 0 7)", 200);
        due("what times would do is not", x.cell(0, 5), 2);
        // 1 + 20 * (1 + 9 ..): the inner times counts each time
        ran("times 20 (times 8 (settle))", 181);
        ran("times 20 (times 9 (settle))", 200);
        ran("times 20 (times 0 (settle))", 21);
        ran("times 2 (times 2 (times 2 (settle)))", 1 + 2 * (1 + 2 * (1 + 2)));
        ran("times 20 (times 20 (times 20 (lose 1 1)));lose 1 2", 200);
        due("what stands behind is not", x.cell(1, 5), 1);
    }

    private static void acts() {
        on("ACTS: all from row() to run()");
        told(SMALL, 1);
        row(0, "b");
        due("row", x.count(5), 1);
        scroll("c");
        due("scroll", x.count(5), 2);
        x.tick(1);
        due("tick", x.count(5), 3);
        x.settle();
        due("settle", x.count(5), 4);
        x.lose(0, 1);
        due("lose", x.count(5), 5);
        x.wear(0, 1);
        due("wear", x.count(5), 6);
        x.mend(0, 1);
        due("mend", x.count(5), 7);
        x.limit(5);
        due("limit", x.count(5), 8);
        x.exchange(0, 1, 2);
        due("exchange", x.count(5), 9);
        run("settle;settle;settle");
        due("run", x.count(5), 10);
    }

    /** What answers NONE, -2 or a fault is no act; nor are the calls ahead of row() and behind run(). */
    private static void noActs() {
        on("all from row() to run()");
        told(SMALL, 1);
        row(2, "a");
        row(0, "abc");
        scroll("'");
        x.tick(0);
        x.settle();
        x.lose(0, 0);
        x.lose(9, 9);
        x.wear(0, 0);
        x.mend(0, 1);
        x.limit(9);
        x.limit(0);
        x.exchange(0, 1, 1);
        run("x");
        x.undo();
        x.keep(0);
        x.keep(2);
        tape("b");
        x.cost(0);
        x.when(0);
        x.rests(0);
        due("acts", x.count(5), 0);
        x.wear(0, 1);
        x.wear(0, 1);
        due("acts", x.count(5), 1);
        // acts by which nothing changes
        row(0, "");
        x.tick(1);
        run("settle");
        due("acts", x.count(5), 4);
    }

    private static void lastTen() {
        on("The last 10 can be UNDONE, the last first");
        told(SMALL, 1);
        for (int n = 10; n <= 20; n++) {
            x.limit(n);
            due("acts", x.count(5), Math.min(10, n - 9));
        }
        for (int n = 19; n >= 10; n--) {
            due("undo", x.undo(), n - 10);
            due("limit", x.count(3), n);
        }
        due("the eleventh", x.undo(), -1);
        due("limit", x.count(3), 10);
        // undone ones make room, again and again
        for (int round = 0; round < 3; round++) {
            for (int n = 30; n < 37; n++) x.limit(n);
            for (int n = 35; n >= 32; n--) {
                x.undo();
                due("limit", x.count(3), n);
            }
            due("acts", x.count(5), round == 0 ? 3 : 6);
        }
    }

    private static void shelves() {
        on("SHELVES 0, 1: all but TAPE, SHELVES");
        due("none", x.keep(-1), -1);
        due("none", x.keep(2), -1);
        told(SMALL + ";lose 0 1", 1);
        row(0, "bc");
        x.settle();
        x.wear(3, 2);
        x.limit(7);
        x.exchange(0, 1, 3);
        row(1, "b");
        long digest = x.digest();
        due("keep", x.keep(1), 4);
        tape("tape");
        told("board 1 1 limit 9;drum 1 'xyz'", 1);
        x.keep(0);
        tape("tape");
        due("back", x.back(1), 4);
        due("tape", x.count(6), 4);
        due("shelves", x.count(7), 3);
        due("digest", x.digest(), digest);
        due("limit", x.count(3), 7);
        due("sign", x.sign(0, 1), 'd');
        due("log", x.log(0, 1), 1);
        due("clatter", x.total(0), 1 + 4);
        due("ticks", x.total(1), 2);
        due("steps", x.cell(1, 6), 2);
        due("the other shelf", x.back(0), 1);
        due("wide", x.count(1), 1);
        due("the shelf stays", x.back(1), 4);
        due("digest", x.digest(), digest);
    }

    private static void ahead() {
        on("Where NONE and another answer fit, it is NONE");
        told(SMALL, 1);
        due("row", row(2, "abc"), -1);
        tape("abc");
        due("cost", x.cost(2), -1);
        due("best", x.best(2, 0), -1);
        due("best", x.best(0, 3), -1);
        due("place", x.place(2, 0), -1);
        due("place", x.place(0, 2), -1);
        due("loudest", x.loudest(2), -1);
        due("usual", x.usual(0, 2), -1);
        due("usual", x.usual(1, 0), -1);
        due("better", x.better(0, 3), -1);
        due("better", x.better(1, 0), -1);
        due("letter", x.letter(2, 99), -1);
        due("back", x.back(2), -1);
        x = new FlapBoard();
        due("scroll without a board", scroll("'"), -1);
        due("run without a board", run("x"), -1);
        due("row without a board", row(0, "'"), -1);
        due("settle without a board", x.settle(), -1);

        on("The k-th: from 0 on");
        told("board 1 2 limit 9;drum 1 'abcd';row 0 'bd'", 1);
        due("the first", x.letter(0, 0), 'b');
        due("the second", x.letter(0, 1), 'd');
    }

    private static void emptied(String call, int got, int want) {
        due(call, got, want);
        due("tape behind " + call, x.count(6), 0);
    }

    private static void stays(String call, int got, int want) {
        due(call, got, want);
        due("tape behind " + call, x.count(6), 3);
    }

    private static void tapes() {
        on("The TAPE is empty behind each call that reads it, but where told");
        emptied("row without a board", row(0, "b"), -1);
        emptied("scroll without a board", scroll("b"), -1);
        emptied("run without a board", run("settle"), -1);
        emptied("a fault", tell("board"), -2 - 41);
        emptied("tell", tell(SMALL), 1);
        emptied("row", row(0, "b"), 0);
        emptied("no such row", row(2, "b"), -1);
        emptied("too many", row(0, "bbb"), -2);
        emptied("scroll", scroll("b"), 0);
        emptied("no sign", scroll("'"), -2);
        emptied("run", run("settle"), 1);
        emptied("a program's fault", run("x"), -2 - 1);
        tape("b/c");
        stays("too many", x.cost(0), -2);
        stays("no such row", x.cost(2), -1);
        stays("best", x.best(0, 0), 0);
        stays("no such row", x.best(2, 0), -1);
        stays("too many", x.place(0, 0), -2);
        stays("tick", x.tick(1), 0);
        stays("undo", x.undo(), 3);
        stays("keep", x.keep(0), 4);
        stays("back", x.back(0), 4);
        stays("how many", x.letter(0, -1), 5);
        told("board 1 3 limit 9;drum 1 'abcd'", 1);
        tape("bcd");
        stays("cost", x.cost(0), 6);
        stays("place", x.place(0, 1), 6);
        emptied("what stayed is read by row", x.row(0), 0);
        shown("wanted", letters(1), "bcd");
    }
}
