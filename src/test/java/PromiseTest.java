/** Promise by promise: ordinary inputs, the edges that the document names, wrong inputs; answers worked out by hand. */
public final class PromiseTest extends Bench {
    private static void fresh(int number, String s) {
        promise(number);
        x = new FlapBoard();
        if (s != null) tell(s);
    }

    private static void promise(int number) {
        about = "promise " + number;
    }

    public static void main(String[] args) {
        newObject();
        feedAndEnd();
        tellBoards();
        tellFaults();
        rows();
        worded();
        scrolls();
        ticks();
        settles();
        losesWearsMends();
        limits();
        exchanges();
        runs();
        runFaults();
        undos();
        shelves();
        cellsAndDrums();
        whichAndLeft();
        whens();
        totals();
        words();
        logs();
        betters();
        signsOfCells();
        restsUnlikeLetter();
        digestsAndCounts();
        extremes();
        finish("all promises are kept");
    }

    private static void newObject() {
        fresh(1, null);
        due("NONE", FlapBoard.NONE, -1);
        for (int what = 0; what <= 8; what++) due("count " + what, x.count(what), 0);
        due("count -1", x.count(-1), -1);
        due("count 9", x.count(9), -1);
        due("row", x.row(0), -1);
        due("scroll", x.scroll(), -1);
        due("tick", x.tick(1), -1);
        due("settle", x.settle(), -1);
        due("lose", x.lose(0, 1), -1);
        due("wear", x.wear(0, 1), -1);
        due("mend", x.mend(0, 1), -1);
        due("limit", x.limit(5), -1);
        due("exchange", x.exchange(0, 1, 2), -1);
        due("run", x.run(), -1);
        due("undo", x.undo(), -1);
        due("back", x.back(0), -2);
        due("cell", x.cell(0, 0), -1);
        due("worn", x.worn(0), -1);
        due("drum", x.drum(0, 0), -1);
        due("sign", x.sign(0, 0), -1);
        due("at", x.at(0, 0, 0), -1);
        due("which", x.which(0), -1);
        due("left", x.left(0), -1);
        due("when", x.when(0), -1);
        due("loudest", x.loudest(0), -1);
        due("total", x.total(0), -1);
        due("cost", x.cost(0), -1);
        due("best", x.best(0, 0), -1);
        due("place", x.place(0, 0), -1);
        due("log", x.log(0, 0), -1);
        due("often", x.often(0, 0, true), -1);
        due("usual", x.usual(0, 0), -1);
        due("better", x.better(0, 0), -1);
        due("farthest", x.farthest(0, 0), -1);
        due("lacks", x.lacks(0, 0), -1);
        due("rests", x.rests(0), -1);
        due("unlike", x.unlike(0, 1), -1);
        due("letter how many", x.letter(0, -1), 0);
        due("letter first", x.letter(1, 0), -2);
        due("letter what 2", x.letter(2, 0), -1);
        due("digest", x.digest(), 17);
    }

    private static void feedAndEnd() {
        fresh(2, null);
        for (int k = 1; k <= 20; k++) due("feed", x.feed(k, 0, 0, 0, -1), 20 * k);
        due("feed the 401st", x.feed(0, 0, 0, 0, 0), -1);
        due("count", x.count(6), 400);
        x = new FlapBoard();
        tell("board 1 10 limit 9;drum 1 ' abcdefgh'");
        // the highest byte of each number comes first
        x.feed('a' << 24 | 'b' << 16 | 'c' << 8 | 'd', 'e' << 24 | 'f' << 16, 0, 0, 0);
        x.end(6);
        due("row", x.row(0), 0);
        shown("wanted", letters(1), "abcdef    ");
        promise(3);
        x = new FlapBoard();
        due("end of nothing", x.end(0), 0);
        due("end beyond", x.end(1), -1);
        x.feed(0, 0, 0, 0, 0);
        due("end below 0", x.end(-1), -1);
        due("end beyond", x.end(21), -1);
        due("count", x.count(6), 20);
        due("end all", x.end(20), 20);
        due("end", x.end(7), 7);
        due("end beyond", x.end(8), -1);
        due("count", x.count(6), 7);
        x.end(0);
        for (int k = 1; k <= 20; k++) x.feed(0, 0, 0, 0, 0);
        x.end(381);
        due("feed beyond 400", x.feed(0, 0, 0, 0, 0), -1);
        x.end(380);
        due("feed up to 400", x.feed(0, 0, 0, 0, 0), 400);
    }

    private static void tellBoards() {
        fresh(4, null);
        due("sample", tell(SAMPLE), 2);
        due("tape", x.count(6), 0);
        due("rows", x.count(0), 2);
        due("wide", x.count(1), 3);
        due("cells", x.count(2), 6);
        due("limit", x.count(3), 4);
        due("drums", x.count(4), 2);
        shown("shown", letters(0), "ab /   ");
        shown("wanted", letters(1), "ab /   ");
        due("believes", x.cell(1, 2), 2);
        due("loses", x.cell(1, 5), 2);
        due("no log", x.log(0, 1), 0);
        due("no blanks", tell("board2 3limit4;drum2' abc'"), 1);
        due("many blanks", tell("  board  02 003 limit   4 ;  drum 2   'ab'  ;row 1'b' ; lose 5 0 "), 1);
        due("the first and the last sign", tell("board 1 3 limit 1;drum 1 ' ~!';row 0 '~!~'"), 1);
        shown("shown", letters(0), "~!~");
        due("none quoted", tell("board 1 2 limit 1;drum 1 'ab';row 0 'bb';row 0 ''"), 1);
        shown("all home", letters(0), "aa");
        due("cells are as at first", tell("board 1 2 limit 1;drum 1 'ab';drum 9 'xyz';row 0 'bb';worn 0 1;lose 0 3;cells 0 0 1"), 2);
        shown("one home", letters(0), "xb");
        due("drum", x.cell(0, 0), 1);
        due("loses", x.cell(0, 5), 0);
        due("worn", x.worn(0), 0);
        // a wanted flap that gets worn: home is wanted, what is shown stays; a row shows at once what it wants
        tell("board 1 1 limit 9;drum 1 'abc';row 0 'b';worn 0 1");
        due("shows", x.cell(0, 1), 1);
        due("believes", x.cell(0, 2), 1);
        due("wants", x.cell(0, 3), 0);
        tell("board 1 1 limit 9;drum 1 'abc';row 0 'b';worn 0 1;row 0 'b'");
        due("missed, shows what it wants", x.cell(0, 1), 0);
        due("missed, believes what it wants", x.cell(0, 2), 0);
        // the nearest flap from what is believed, in a text too
        tell("board 1 1 limit 9;drum 1 'abcb';row 0 'c';row 0 'b'");
        due("nearest", x.cell(0, 1), 3);
        due("four drums of 40", tell("board 4 10 limit 99;drum 9 '" + FORTY + "';drum 1 '" + FORTY + "';drum 1 '" + FORTY + "';drum 1 '" + FORTY + "'"), 4);
        // a new board: nothing undone, shelves stay
        x.tick(1);
        x.keep(1);
        due("a fault leaves all", tell("board"), -2 - 41);
        due("undo stays", x.count(5), 1);
        due("board stays", x.count(2), 40);
        tell(SAMPLE);
        due("nothing can be undone", x.count(5), 0);
        due("shelves stay", x.count(7), 2);
        due("totals begin anew", x.total(1), 0);
    }

    private static void tellFaults() {
        fresh(4, null);
        fault("", 0, 1);
        fault("   ", 3, 1);
        fault("boar 1 1 limit 1", 0, 1);
        fault("boards 1 1 limit 1", 0, 1);
        fault("boardz 1 1 limit 1", 0, 1);
        fault("aboard 1 1 limit 1", 0, 1);
        fault("board`1 1 limit 1", 5, 1);
        fault("board{1 1 limit 1", 5, 1);
        fault("board/1 1 limit 1", 5, 1);
        fault("board 1:1 limit 1", 7, 1);
        fault("Board 1 1 limit 1", 0, 1);
        fault("board", 5, 1);
        fault("board x", 6, 1);
        fault("board 7", 6, 2);
        fault("board 0", 6, 2);
        fault("board 99999999999999999999 1", 6, 2);
        fault("board 4294967297 1 limit 1;drum 1 'ab'", 6, 2);
        fault("board 6 7 limit 1", 8, 2);
        fault("board 5 9 limit 1", 8, 2);
        fault("board 1 11 limit 1", 8, 2);
        fault("board 1 0 limit 1", 8, 2);
        fault("board 1 1 limits 1", 10, 1);
        fault("board 1 1 5", 10, 1);
        fault("board 1 1 limit 0", 16, 2);
        fault("board 1 1 limit 100", 16, 2);
        fault("board 1 1 limit 5", 17, 4);
        fault("board 1 1 limit 5  ", 19, 4);
        fault("board 1 1 limit 5;", 18, 1);
        fault("board 1 1 limit 5 drum", 18, 1);
        fault("board 1 1 limit 5;;", 18, 1);
        fault("board 1 1 limit 5;cells 0 0 0", 18, 3);
        fault("board 1 1 limit 5;worn 0 0 0", 18, 3);
        fault("board 1 1 limit 5; row 0 'a'", 19, 3);
        fault("board 1 1 limit 5;lose 0 0", 18, 3);
        fault("board 1 1 limit 5;scroll ''", 18, 1);
        fault("board 1 1 limit 5;drum 0 'ab'", 23, 2);
        fault("board 1 1 limit 5;drum 10 'ab'", 23, 2);
        fault("board 1 1 limit 5;drum 1 ab", 25, 1);
        fault("board 1 1 limit 5;drum 1 'a'", 27, 2);
        fault("board 1 1 limit 5;drum 1 ''", 26, 2);
        fault("board 1 1 limit 5;drum 1 'ab", 28, 1);
        fault("board 1 1 limit 5;drum 1 'a\u007fb'", 27, 1);
        fault("board 1 1 limit 5;drum 1 'a\u001fb'", 27, 1);
        fault("board 1 1 limit 5;drum 1 'ab\u00e9'", 28, 1);
        fault("board 1 1 limit 5;drum 1 '" + FORTY + "x'", 66, 2);
        // of one place the least
        fault("board 1 1 limit 5;drum 1 '" + FORTY + "\u0001'", 66, 1);
        fault("board 1 1 limit 5;drum 1 '" + FORTY, 66, 1);
        String one = "board 1 1 limit 5;drum 1 'ab'";
        fault(one + "x", 29, 1);
        fault(one + ";row 0 'aa'", 38, 2);
        fault(one + ";row 0 'a\u0080'", 38, 1);
        fault(one + ";row 1 'a'", 34, 2);
        fault(one + ";row 0 'a", 38, 1);
        fault(one + ";worn 1 1", 35, 2);
        fault(one + ";worn 0 2", 37, 2);
        fault(one + ";worn 0 0", 37, 2);
        fault(one + ";worn 0 1;worn 0 1", 46, 2);
        fault(one + ";lose 0 10", 37, 2);
        fault(one + ";lose 1 1", 35, 2);
        fault(one + ";cells 0 0 1", 40, 2);
        fault(one + ";cells 0 1 0", 38, 2);
        fault(one + ";cells 1 1 0", 36, 2);
        fault(one + ";cells 0 0", 39, 1);
        fault("board 1 3 limit 5;drum 1 'ab';cells 2 1 0", 38, 2);
        fault(one + ";drum 1 'ab';drum 1 'ab';drum 1 'ab';drum 1 'ab'", 66, 3);
        due("no board came of it", x.count(2), 0);
    }

    private static void rows() {
        fresh(5, SAMPLE);
        due("row", row(0, "cab"), 0);
        due("tape", x.count(6), 0);
        shown("wanted", letters(1), "cab/   ");
        shown("shown", letters(0), "ab /   ");
        due("left", x.cell(0, 4), 2);
        due("left round about", x.cell(1, 4), 3);
        due("left", x.cell(2, 4), 2);
        due("row missed", row(0, "xaz"), 2);
        shown("all stays where it misses", letters(1), "cab/   ");
        due("row", row(1, "x"), 0);
        due("nearest of two", x.cell(3, 3), 1);
        due("row of nothing", row(0, ""), 0);
        shown("home", letters(1), "   /x  ");
        int acts = x.count(5);
        tape("a");
        due("no such row", x.row(2), -1);
        due("tape", x.count(6), 0);
        tape("a");
        due("row -1", x.row(-1), -1);
        due("tape", x.count(6), 0);
        due("too many", row(0, "abca"), -2);
        due("tape", x.count(6), 0);
        due("the sign '", row(0, "a'"), -2);
        due("no sign", row(0, "\u001f"), -2);
        due("no sign", row(0, "\u007f"), -2);
        due("no sign", row(0, "\u00ff"), -2);
        due("the last sign", row(0, "~"), 1);
        x.undo();
        due("NONE ahead of -2", row(9, "abcdef"), -1);
        due("no acts", x.count(5), acts);
        shown("wanted still", letters(1), "   /x  ");
    }

    /** Wanting: nearest from what is believed, worn flaps aside. */
    private static void worded() {
        fresh(5, "board 1 1 limit 9;drum 1 ' xyx'");
        row(0, "y");
        x.settle();
        row(0, "x");
        due("nearest on from y", x.cell(0, 3), 3);
        x.wear(0, 3);
        due("a worn flap is wanted no more", x.cell(0, 3), 0);
        row(0, "x");
        due("the other one", x.cell(0, 3), 1);
        due("left", x.cell(0, 4), 3);
        x.wear(0, 1);
        due("none is there", row(0, "x"), 1);
        due("home is wanted still", x.cell(0, 3), 0);
    }

    private static void scrolls() {
        fresh(6, "board 3 2 limit 9;drum 1 ' abc';drum 1 'cba';cells 2 3 1;row 0 'ab';row 1 'ba';row 2 'cc'");
        due("scroll", scroll("b"), 0);
        shown("wanted", letters(1), "ba/cc/b ");
        due("tape", x.count(6), 0);
        // the third row's blank is no sign of the second row's drum
        due("scroll", scroll("aa"), 1);
        shown("wanted", letters(1), "cc/bc/aa");
        due("too many", scroll("aaa"), -2);
        due("no sign", scroll("'"), -2);
        due("acts", x.count(5), 2);
        // home below is wanted by its sign
        tell("board 2 1 limit 9;drum 1 'aba';row 0 'b'");
        due("scroll", scroll(""), 0);
        due("nearest of like signs, not home", x.cell(0, 3), 2);
        due("home", x.cell(1, 3), 0);
        tell("board 1 2 limit 9;drum 1 'ab'");
        due("one row", scroll("bx"), 1);
        shown("wanted", letters(1), "ba");
    }

    private static void ticks() {
        fresh(7, SAMPLE);
        row(0, "cab");
        due("who turns", x.which(3), 0b011);
        due("tick", x.tick(1), 2);
        due("left", x.cell(0, 4), 1);
        due("left", x.cell(1, 4), 2);
        due("left", x.cell(2, 4), 2);
        due("who turns", x.which(3), 0b110);
        due("tick", x.tick(1), 2);
        due("who turns", x.which(3), 0b011);
        due("two ticks", x.tick(2), 3);
        due("nothing left", x.tick(99), 0);
        due("an act all the same", x.count(5), 5);
        due("lost", x.cell(1, 1), 3);
        due("believes", x.cell(1, 2), 1);
        due("loses none", x.cell(1, 5), 0);
        due("steps", x.cell(1, 6), 3);
        due("tick 0", x.tick(0), -1);
        due("tick 100", x.tick(100), -1);
        due("tick -1", x.tick(-1), -1);
        due("acts", x.count(5), 5);
        // a later one of less current turns where one waits
        tell("board 1 3 limit 5;drum 3 ' abc';drum 2 'xyz';cells 2 2 1");
        row(0, "cby");
        due("who turns", x.which(3), 0b101);
        // home is found
        tell("board 1 1 limit 5;drum 3 ' abc';lose 0 1");
        row(0, "c");
        due("steps", x.tick(9), 3);
        due("shows", x.cell(0, 1), 2);
        row(0, "b");
        due("left", x.cell(0, 4), 3);
        due("tick", x.tick(2), 2);
        due("shows home", x.cell(0, 1), 0);
        due("believes home", x.cell(0, 2), 0);
        due("found", x.cell(0, 7), 1);
        due("left", x.cell(0, 4), 2);
    }

    private static void settles() {
        fresh(8, SAMPLE);
        due("none turns", x.settle(), -2);
        due("no act", x.count(5), 0);
        row(0, "cab");
        due("settle", x.settle(), 4);
        due("settled", x.settle(), -2);
        row(0, "abb");
        due("settle with home found", x.settle(), 3);
        due("found", x.cell(1, 7), 2);
        shown("shown", letters(0), "abb/   ");
        tell("board 1 1 limit 1;drum 2 'ab'");
        row(0, "b");
        due("too much current", x.settle(), -2);
    }

    private static void losesWearsMends() {
        fresh(9, SAMPLE);
        due("lose", x.lose(1, 9), 2);
        due("so it is", x.lose(1, 9), -2);
        due("lose none", x.lose(1, 0), 9);
        due("10", x.lose(1, 10), -1);
        due("-1", x.lose(1, -1), -1);
        due("cell 6", x.lose(6, 1), -1);
        due("cell -1", x.lose(-1, 1), -1);
        due("acts", x.count(5), 2);
        promise(10);
        due("wear", x.wear(0, 3), 1);
        due("wear it again", x.wear(0, 3), -2);
        due("wear home", x.wear(0, 0), -1);
        due("wear 4", x.wear(0, 4), -1);
        due("wear 4 of the other drum", x.wear(3, 4), 1);
        due("wear -1", x.wear(0, -1), -1);
        due("cell 6", x.wear(6, 1), -1);
        due("wear what is wanted", x.wear(0, 1), 2);
        due("home is wanted", x.cell(0, 3), 0);
        due("left", x.cell(0, 4), 3);
        due("not in the log", x.log(0, 1), 0);
        due("worn", x.worn(0), 0b1010);
        due("worn of cell", x.cell(0, 8), 2);
        promise(11);
        due("mend", x.mend(0, 3), 1);
        due("mend again", x.mend(0, 3), -2);
        due("mend home", x.mend(0, 0), -2);
        due("mend 4", x.mend(0, 4), -1);
        due("mend -1", x.mend(0, -1), -1);
        due("cell 6", x.mend(6, 1), -1);
        due("mend the last", x.mend(0, 1), 0);
        due("home is wanted still", x.cell(0, 3), 0);
        due("acts", x.count(5), 7);
    }

    private static void limits() {
        fresh(12, SAMPLE);
        due("limit", x.limit(99), 4);
        due("so it is", x.limit(99), -2);
        due("limit 0", x.limit(0), -1);
        due("limit 100", x.limit(100), -1);
        due("limit 1", x.limit(1), 99);
        due("count", x.count(3), 1);
        due("acts", x.count(5), 2);
        due("all above it", x.which(4), 0b111111);
    }

    private static void exchanges() {
        fresh(13, SAMPLE);
        row(0, "cab");
        row(1, "z");
        due("exchange", x.exchange(0, 1, 3), 1);
        due("sign", x.sign(0, 1), 'c');
        due("sign", x.sign(0, 3), 'a');
        due("sign", x.sign(0, 2), 'b');
        due("stays by number", x.cell(0, 3), 3);
        shown("wanted", letters(1), "acb/z  ");
        due("log", x.log(0, 1), 0);
        due("log of the other", x.log(1, 1), 0);
        due("home", x.exchange(0, 0, 1), -1);
        due("home", x.exchange(0, 1, 0), -1);
        due("like", x.exchange(0, 1, 1), -1);
        due("4", x.exchange(0, 1, 4), -1);
        due("4", x.exchange(0, 4, 1), -1);
        due("4 of the other drum", x.exchange(1, 4, 1), 1);
        due("drum 2", x.exchange(2, 1, 2), -1);
        due("drum -1", x.exchange(-1, 1, 2), -1);
        due("acts", x.count(5), 4);
        due("undo", x.undo(), 3);
        x.undo();
        due("log again", x.log(0, 1), 3);
        due("sign again", x.sign(0, 1), 'a');
    }

    private static void runs() {
        fresh(14, SAMPLE);
        due("run", run("times 2 (home 0; settle; row 0 'b'; wait 3)"), 9);
        due("one act", x.count(5), 1);
        due("tape", x.count(6), 0);
        shown("wanted", letters(1), "b  /   ");
        due("log has rows, not home", x.log(0, 1), 2);
        due("undo", x.undo(), 0);
        shown("wanted", letters(1), "ab /   ");
        due("lose", run("lose 5 9"), 1);
        due("loses", x.cell(5, 5), 9);
        due("lose the same", run("lose 5 9"), 1);
        due("acts", x.count(5), 2);
        due("scroll", run("row 1 'xyx';scroll'z'; settle"), 3);
        due("scroll", x.at(1, 0, 2), 'z');
        due("times 0", run("times 0(settle)"), 1);
        due("times 20 twice: 200 at most", run("times 20 (times 20 (lose 0 1))"), 200);
        due("times 20", run("times 20 (wait 1)"), 21);
        due("199", run("times 1 (times 10 (times 18 (settle)));settle"), 193);
        // the 200th is done, the 201st not
        due("200", run("times 18 (lose 0 1;lose 0 2;lose 0 3;lose 0 4;lose 0 5;lose 0 6;lose 0 7;lose 0 8;lose 0 9;lose 0 0;lose 0 1)"), 199);
        due("loses", x.cell(0, 5), 1);
        due("200", run("lose 1 1;times 18 (lose 0 1;lose 0 2;lose 0 3;lose 0 4;lose 0 5;lose 0 6;lose 0 7;lose 0 8;lose 0 9;lose 0 0;lose 0 2);lose 1 7"), 200);
        due("loses", x.cell(0, 5), 2);
        due("loses", x.cell(1, 5), 1);
        tell(SAMPLE);
        due("home", run("home 0"), 1);
        shown("wanted", letters(1), "   /   ");
        due("left", x.left(0), 5);
        due("wait", run("wait 2"), 1);
        due("left", x.left(0), 1);
        due("settle", run("settle"), 1);
        due("left", x.left(0), 0);
        due("ticks", x.total(1), 3);
        due("none turns", run("settle"), 1);
        due("row of nothing", run("row 1 '';scroll ''"), 2);
        due("home of the last row", run("row 1 'xyz';home 1"), 2);
        shown("wanted", letters(1), "   /   ");
        due("three open", run("times 2 (times 2 (times 2 (settle)))"), 15);
        due("side by side", run("times 1 (settle);times 1(times 1(settle);times 2 (settle))"), 8);
        x = new FlapBoard();
        due("without a board", run("settle"), -1);
        due("tape", x.count(6), 0);
        due("without a board", run("x"), -1);
    }

    private static void runFaults() {
        fresh(14, SAMPLE);
        runFault("", 0, 1);
        runFault("  ", 2, 1);
        runFault("ro 0 'a'", 0, 1);
        runFault("rows 0 'a'", 0, 1);
        runFault("row 2 'a'", 4, 2);
        runFault("row 0 'abca'", 10, 2);
        runFault("row 0 'abc\u0003'", 10, 1);
        runFault("row 0 a", 6, 1);
        runFault("row 'a'", 4, 1);
        runFault("scroll 'abca'", 11, 2);
        runFault("scroll 'abc", 11, 1);
        runFault("scroll", 6, 1);
        runFault("wait 100", 5, 2);
        runFault("wait 0", 5, 2);
        runFault("wait", 4, 1);
        runFault("home 2", 5, 2);
        runFault("home 0;", 7, 1);
        runFault("home 0 settle", 7, 1);
        runFault("settle)", 6, 1);
        runFault("settle 1", 7, 1);
        runFault("lose 6 1", 5, 2);
        runFault("lose 5 10", 7, 2);
        runFault("times 21 (settle)", 6, 2);
        runFault("times 2 settle", 8, 1);
        runFault("times 2 ()", 9, 1);
        runFault("times 2 (settle", 15, 1);
        runFault("times 2 (settle;)", 16, 1);
        runFault("times 2 (settle) settle", 17, 1);
        runFault("times 2 (settle))", 16, 1);
        runFault("times 2 (times 2 (times 2 (times 2 (settle))))", 35, 3);
        runFault("times 0 (times 0 (times 0 (times 0(", 34, 3);
        runFault("lose 0 1;drum 1 'ab'", 9, 1);
        due("nothing was done", x.cell(0, 5), 0);
        due("no acts", x.count(5), 0);
    }

    private static void undos() {
        fresh(15, SAMPLE);
        due("nothing", x.undo(), -1);
        long first = x.digest();
        row(0, "cab");
        long second = x.digest();
        x.settle();
        due("undo", x.undo(), 1);
        due("digest", x.digest(), second);
        due("totals", x.total(2), 0);
        due("log stays", x.log(0, 1), 3);
        tape("a");
        due("undo", x.undo(), 0);
        due("digest", x.digest(), first);
        due("log", x.log(0, 1), 0);
        due("tape stays", x.count(6), 1);
        due("nothing more", x.undo(), -1);
        for (int n = 10; n < 23; n++) x.limit(n);
        due("ten", x.count(5), 10);
        for (int k = 9; k >= 0; k--) due("undo", x.undo(), k);
        due("an eleventh", x.undo(), -1);
        due("limit", x.count(3), 12);
        x.limit(30);
        due("one", x.count(5), 1);
        due("undo", x.undo(), 0);
        due("limit", x.count(3), 12);
    }

    private static void shelves() {
        fresh(16, null);
        due("shelf 2", x.keep(2), -1);
        due("shelf -1", x.keep(-1), -1);
        due("nothing is kept", x.count(7), 0);
        due("no board kept", x.keep(1), 0);
        due("kept", x.count(7), 2);
        tell(SAMPLE);
        row(0, "cab");
        x.tick(2);
        due("keep", x.keep(0), 6);
        due("kept", x.count(7), 3);
        due("acts stay", x.count(5), 2);
        long kept = x.digest();
        promise(17);
        due("shelf 2", x.back(2), -1);
        due("shelf -1", x.back(-1), -1);
        x.settle();
        x.exchange(0, 1, 2);
        x.limit(9);
        tape("tape");
        due("back", x.back(0), 6);
        due("digest", x.digest(), kept);
        due("nothing can be undone", x.count(5), 0);
        due("undo", x.undo(), -1);
        due("limit", x.count(3), 4);
        due("sign", x.sign(0, 1), 'a');
        due("log", x.log(0, 1), 3);
        due("total", x.total(2), 4);
        due("tape stays", x.count(6), 4);
        due("back to no board", x.back(1), 0);
        due("no board", x.count(0), 0);
        due("no limit", x.count(3), 0);
        due("tick", x.tick(1), -1);
        due("back again", x.back(0), 6);
        due("digest", x.digest(), kept);
        tell("board 1 1 limit 9;drum 1 'abcdefghij'");
        due("kept over another board", x.keep(0), 1);
        due("back", x.back(0), 1);
        row(0, "j");
        due("log", x.log(0, 0), 9);
        fresh(17, SAMPLE);
        due("nothing is kept", x.back(0), -2);
        due("nothing is kept", x.back(1), -2);
    }

    private static void cellsAndDrums() {
        fresh(18, SAMPLE);
        row(0, "cab");
        x.settle();
        int[] second = {0, 3, 1, 1, 0, 0, 3, 0, 0};
        for (int what = 0; what < 9; what++) due("cell 1, " + what, x.cell(1, what), second[what]);
        due("drum", x.cell(3, 0), 1);
        due("what 9", x.cell(0, 9), -1);
        due("what -1", x.cell(0, -1), -1);
        due("cell 6", x.cell(6, 0), -1);
        due("cell -1", x.cell(-1, 0), -1);
        promise(19);
        due("worn", x.worn(0), 0);
        due("cell 6", x.worn(6), -1);
        due("cell -1", x.worn(-1), -1);
        promise(20);
        int[] drum = {3, 5, 3, 4, 2};
        for (int what = 0; what < 5; what++) due("drum 1, " + what, x.drum(1, what), drum[what]);
        due("what 5", x.drum(1, 5), -1);
        due("what -1", x.drum(1, -1), -1);
        due("drum 2", x.drum(2, 0), -1);
        due("drum -1", x.drum(-1, 0), -1);
        promise(21);
        due("sign", x.sign(1, 4), 'z');
        due("sign", x.sign(0, 0), ' ');
        due("flap 4", x.sign(0, 4), -1);
        due("flap -1", x.sign(0, -1), -1);
        due("drum 2", x.sign(2, 0), -1);
        due("drum -1", x.sign(-1, 0), -1);
        promise(22);
        row(0, "cbb");
        due("shows", x.at(0, 1, 0), 'c');
        due("believes", x.at(0, 1, 1), 'a');
        due("wants", x.at(0, 1, 2), 'b');
        due("what 3", x.at(0, 1, 3), -1);
        due("what -1", x.at(0, 1, -1), -1);
        due("row 2", x.at(2, 0, 0), -1);
        due("row -1", x.at(-1, 0, 0), -1);
        due("column 3", x.at(0, 3, 0), -1);
        due("column -1", x.at(1, -1, 0), -1);
        promise(19);
        tell("board 1 1 limit 9;drum 1 '" + FORTY + "'");
        x.wear(0, 39);
        x.wear(0, 31);
        due("high bits", x.worn(0), 1L << 39 | 1L << 31);
        due("how many", x.cell(0, 8), 2);
    }

    private static void whichAndLeft() {
        fresh(23, SAMPLE);
        row(0, "cab");
        row(1, "zx");
        x.limit(2);
        due("left", x.which(0), 0b011111);
        due("turn", x.which(3), 0b000010);
        due("above the limit", x.which(4), 0b111000);
        due("show another sign", x.which(2), 0b011111);
        due("show another flap", x.which(1), 0);
        x.tick(1);
        due("show another flap", x.which(1), 0b000010);
        due("what 5", x.which(5), -1);
        due("what -1", x.which(-1), -1);
        // another flap with the same sign is no other sign
        tell("board 1 1 limit 9;drum 1 'aab';row 0 'a';worn 0 1");
        due("no row was wanted", x.which(0), 0);
        tell("board 1 1 limit 9;drum 1 'baa'");
        row(0, "a");
        x.settle();
        x.wear(0, 1);
        row(0, "a");
        due("left", x.which(0), 1);
        due("the same sign", x.which(2), 0);
        tell("board 4 10 limit 99;drum 1 'ab'");
        row(3, "aaaaaaaaab");
        due("a high bit", x.which(0), 1L << 39);
        promise(24);
        tell(SAMPLE);
        row(0, "cab");
        due("together", x.left(0), 7);
        due("most", x.left(1), 3);
        due("times current", x.left(2), 14);
        due("least ticks", x.left(3), 4);
        x.limit(99);
        due("least ticks by the most", x.left(3), 3);
        x.limit(14);
        due("least ticks", x.left(3), 3);
        x.limit(1);
        due("least ticks", x.left(3), 14);
        due("what 4", x.left(4), -1);
        due("what -1", x.left(-1), -1);
    }

    private static void whens() {
        fresh(25, SAMPLE);
        for (int what = 0; what < 6; what++) due("when nothing is left, " + what, x.when(what), 0);
        promise(26);
        due("loudest of nothing", x.loudest(0), -2);
        due("loudest of nothing", x.loudest(1), -2);
        due("loudest NONE ahead of -2", x.loudest(2), -1);
        promise(25);
        row(0, "cab");
        int[] first = {4, 7, 13, 4, 1, 0};
        for (int what = 0; what < 6; what++) due("when " + what, x.when(what), first[what]);
        due("loudest tick", x.loudest(0), 0);
        due("loudest", x.loudest(1), 4);
        due("nothing was done", x.total(1), 0);
        x.settle();
        row(0, "abb");
        int[] second = {3, 5, 9, 4, 0, 2};
        for (int what = 0; what < 6; what++) due("when " + what, x.when(what), second[what]);
        due("what 6", x.when(6), -1);
        due("what -1", x.when(-1), -1);
        due("nothing was found", x.total(3), 0);
        promise(26);
        // twice the dear one alone, then two cheap ones
        tell("board 1 3 limit 4;drum 4 'abc';drum 2 'xyz';cells 1 2 1");
        row(0, "cyy");
        due("loudest tick", x.loudest(0), 2);
        due("loudest", x.loudest(1), 4);
        due("what -1", x.loudest(-1), -1);
        due("what 2", x.loudest(2), -1);
        promise(25);
        due("most current", x.when(3), 4);
        due("ticks", x.when(0), 3);
    }

    private static void totals() {
        fresh(27, SAMPLE);
        row(0, "cab");
        x.tick(99);
        row(0, "abb");
        run("settle;wait 5");
        due("clatter", x.total(0), 22);
        due("ticks", x.total(1), 7);
        due("steps", x.total(2), 12);
        due("found", x.total(3), 2);
        due("what 4", x.total(4), -1);
        due("what -1", x.total(-1), -1);
        x.when(0);
        due("trials do not count", x.total(1), 7);
        due("found of a cell", x.cell(1, 7), 2);
        due("steps of a cell", x.cell(1, 6), 6);
        x.undo();
        due("undone", x.cell(1, 7), 0);
        due("undone", x.cell(1, 6), 3);
        int[] undone = {13, 4, 7, 0};
        for (int what = 0; what < 4; what++) due("undone " + what, x.total(what), undone[what]);
        x.tick(99);
        tell(SAMPLE);
        for (int what = 0; what < 4; what++) due("anew " + what, x.total(what), 0);
        due("anew", x.cell(1, 7), 0);
    }

    private static void words() {
        fresh(28, SAMPLE);
        tape("cab");
        due("cost", x.cost(0), 7);
        due("tape stays", x.count(6), 3);
        due("missed count 0", x.cost(1), 0);
        due("row 2", x.cost(2), -1);
        due("row -1", x.cost(-1), -1);
        tape("");
        due("all home", x.cost(0), 5);
        tape("abca");
        due("too many", x.cost(0), -2);
        due("NONE ahead of -2", x.cost(2), -1);
        tape("a'");
        due("no sign", x.cost(0), -2);
        promise(29);
        // ba: 1 to 2, 2 to 1 round about: 1 + 3; ab: 0
        tape("ba/ab");
        due("best", x.best(0, 0), 1);
        due("cost", x.best(0, 1), 0);
        due("missed", x.best(0, 2), 0);
        due("tape stays", x.count(6), 5);
        tape("xyz/ab");
        due("of like cost the one that misses fewer", x.best(0, 0), 1);
        tape("ab/ab ");
        due("of several the first", x.best(0, 0), 0);
        tape("/ab");
        due("an empty word", x.best(0, 0), 1);
        tape("");
        due("one empty word", x.best(0, 0), 0);
        due("its cost", x.best(0, 1), 5);
        tape("xbx/ab");
        due("least cost first, though more miss: both 0", x.best(0, 2), 0);
        tape("xxx/ca");
        due("least cost ahead of misses", x.best(0, 0), 0);
        due("cost", x.best(0, 1), 0);
        due("missed", x.best(0, 2), 3);
        tape("ab/abca");
        due("one too long", x.best(0, 0), -2);
        tape("ab/a'/");
        due("no sign", x.best(0, 0), -2);
        due("NONE ahead of -2", x.best(0, 3), -1);
        due("row 2", x.best(2, 0), -1);
        due("what -1", x.best(0, -1), -1);
        places();
    }

    private static void places() {
        promise(30);
        // believed 1 2 0: b from column 0: 1 + 2 + 0, from 1: 3 + 0 + 0, from 2: 3 + 2 + 2
        tape("b");
        due("the first of two", x.place(0, 0), 0);
        due("cost", x.place(0, 1), 3);
        tape("c");
        due("column", x.place(0, 0), 0);
        due("cost", x.place(0, 1), 4);
        x.wear(0, 3);
        due("fewest miss", x.place(0, 0), 1);
        due("cost", x.place(0, 1), 4);
        due("tape stays", x.count(6), 1);
        tape("cab");
        due("whole row", x.place(0, 0), 0);
        due("cost without the one missed", x.place(0, 1), 5);
        tape("");
        due("no sign", x.place(0, 0), -2);
        tape("abca");
        due("too many", x.place(0, 0), -2);
        due("NONE ahead of -2", x.place(0, 2), -1);
        due("NONE ahead of -2", x.place(2, 0), -1);
        tape("a\u0000");
        due("no sign", x.place(0, 0), -2);
        due("what -1", x.place(0, -1), -1);
        due("row -1", x.place(-1, 0), -1);
        tell("board 1 3 limit 9;drum 1 ' ab';row 0 ' b'");
        tape("b");
        due("the last such", x.place(0, 0), 1);
        due("cost", x.place(0, 1), 0);
    }

    private static void logs() {
        fresh(31, SAMPLE);
        due("journey of nothing", x.log(0, 0), 0);
        promise(33);
        due("usual of nothing", x.usual(0, 0), -2);
        due("NONE ahead of -2", x.usual(0, 2), -1);
        promise(31);
        row(0, "cab");
        // 1 to 3, 2 to 1, 0 to 2
        due("journey", x.log(0, 0), 7);
        due("how many", x.log(0, 1), 3);
        due("unlike", x.log(0, 2), 3);
        row(0, "cab");
        due("journey", x.log(0, 0), 14);
        due("how many", x.log(0, 1), 6);
        due("unlike", x.log(0, 2), 3);
        row(0, "");
        // 1 to 0, 2 to 0
        due("home, too", x.log(0, 1), 8);
        due("journey", x.log(0, 0), 19);
        row(0, "ab");
        due("what it believes is no entry", x.log(0, 1), 8);
        due("another drum", x.log(1, 1), 0);
        row(1, "xq");
        due("another drum", x.log(1, 1), 1);
        due("what 3", x.log(0, 3), -1);
        due("what -1", x.log(0, -1), -1);
        due("drum 2", x.log(2, 0), -1);
        due("drum -1", x.log(-1, 0), -1);
        promise(32);
        due("from 1", x.often(0, 1, false), 3);
        due("to 1", x.often(0, 1, true), 2);
        due("to home", x.often(0, 0, true), 2);
        due("from 3", x.often(0, 3, false), 0);
        due("flap 4", x.often(0, 4, true), -1);
        due("flap -1", x.often(0, -1, true), -1);
        due("drum 2", x.often(2, 0, true), -1);
        promise(33);
        due("of several the least", x.usual(0, 0), 0);
        due("how many", x.usual(0, 1), 2);
        row(0, "c");
        due("usual", x.usual(0, 0), 0);
        row(0, "cb");
        due("usual", x.usual(0, 0), 3);
        due("how many", x.usual(0, 1), 4);
        due("what 2", x.usual(0, 2), -1);
        due("what -1", x.usual(0, -1), -1);
        due("drum 2", x.usual(2, 0), -1);
        promise(31);
        scroll("x");
        // the first row would want what the second one wanted: x is missed, blanks are home: 2 to 0
        due("scroll's, too", x.log(0, 1), 12);
        due("scroll's, too", x.log(1, 1), 2);
        due("a program's, too", run("row 0 'aa';home 0;scroll 'z'"), 3);
        due("log", x.log(1, 1), 3);
    }

    private static void betters() {
        fresh(34, "board 1 2 limit 9;drum 1 ' abc';drum 1 'xy';cells 1 1 1");
        due("nothing", x.better(0, 0), -2);
        row(0, "c");
        // 0 to 3: 3; with 1 and 3 exchanged 1
        due("journey", x.better(0, 0), 1);
        due("first", x.better(0, 1), 1);
        due("second", x.better(0, 2), 3);
        row(0, "a");
        // 0 to 3, 0 to 1: 4; 1 and 3: 4, 2 and 3: 3, 1 and 2: 5
        due("journey", x.better(0, 0), 3);
        due("first", x.better(0, 1), 2);
        due("second", x.better(0, 2), 3);
        row(0, "b");
        due("all alike", x.better(0, 0), -2);
        due("NONE ahead of -2", x.better(0, 3), -1);
        due("what -1", x.better(0, -1), -1);
        due("drum 2", x.better(2, 0), -1);
        due("drum -1", x.better(-1, 0), -1);
        row(0, "ay");
        due("two flaps", x.better(1, 0), -2);
        tell("board 1 1 limit 9;drum 1 ' abc'");
        row(0, "a");
        x.settle();
        row(0, "c");
        // 0 to 1, 1 to 3: 3; 1 and 2: 2 and 1, 1 and 3: 3 and 2, 2 and 3: 1 and 1
        due("between the two", x.better(0, 0), 2);
        due("first", x.better(0, 1), 2);
        due("second", x.better(0, 2), 3);
        tell("board 1 2 limit 9;drum 1 ' abcd';row 0 'bc'");
        row(0, "cb");
        // 2 to 3, 3 to 2: 5 wherever they are
        due("there and back", x.better(0, 0), -2);
        tell("board 1 1 limit 9;drum 1 ' abcd';row 0 'a'");
        row(0, "d");
        // 1 to 4: 3; beside one another by 1 and 3, by 2 and 4
        due("journey", x.better(0, 0), 1);
        due("of several the least first one", x.better(0, 1), 1);
        due("second", x.better(0, 2), 3);
    }

    private static void signsOfCells() {
        fresh(35, SAMPLE);
        due("how many", x.farthest(0, 0), 3);
        due("sign", x.farthest(0, 1), ' ');
        due("sign of two flaps", x.farthest(3, 1), 'z');
        x.wear(3, 4);
        due("worn aside", x.farthest(3, 0), 2);
        due("worn aside", x.farthest(3, 1), 'y');
        x.wear(3, 1);
        due("the other one", x.farthest(3, 0), 3);
        due("the other one", x.farthest(3, 1), 'x');
        x.wear(3, 2);
        x.wear(3, 3);
        due("home alone", x.farthest(3, 0), 0);
        due("home alone", x.farthest(3, 1), ' ');
        due("what 2", x.farthest(3, 2), -1);
        due("what -1", x.farthest(3, -1), -1);
        due("cell 6", x.farthest(6, 0), -1);
        due("cell -1", x.farthest(-1, 0), -1);
        promise(36);
        due("of its own", x.lacks(3, 0), 3);
        due("of the other", x.lacks(3, 1), 3);
        due("of the other", x.lacks(0, 1), 3);
        due("none of its own", x.lacks(0, 0), 0);
        x.mend(3, 3);
        due("of its own", x.lacks(3, 0), 2);
        due("what 2", x.lacks(3, 2), -1);
        x.keep(0);
        tell("board 1 1 limit 9;drum 1 'ab';drum 1 'b~ ';drum 1 'c~a'");
        due("of some other", x.lacks(0, 1), 3);
        x.back(0);
        due("what -1", x.lacks(3, -1), -1);
        due("cell 6", x.lacks(6, 0), -1);
        due("cell -1", x.lacks(-1, 0), -1);
    }

    private static void restsUnlikeLetter() {
        fresh(37, SAMPLE);
        row(0, "cab");
        due("rests", x.rests(0), 3);
        due("rests", x.rests(1), 3);
        due("rests", x.rests(2), 4);
        due("rests", x.rests(3), 0);
        due("cell 6", x.rests(6), -1);
        due("cell -1", x.rests(-1), -1);
        x.limit(1);
        due("never", x.rests(0), -2);
        due("rests", x.rests(3), 0);
        due("nothing was done", x.total(1), 0);
        promise(38);
        due("unlike", x.unlike(0, 1), 3);
        row(0, " b");
        due("unlike", x.unlike(1, 0), 1);
        due("like ones", x.unlike(1, 1), -1);
        due("row 2", x.unlike(0, 2), -1);
        due("row -1", x.unlike(-1, 0), -1);
        promise(39);
        shown("shown", letters(0), "ab /   ");
        shown("wanted", letters(1), " b /   ");
        due("how many", x.letter(0, -1), 7);
        due("between", x.letter(0, 3), '/');
        due("beyond", x.letter(0, 7), -2);
        due("last", x.letter(0, 6), ' ');
        due("k -2", x.letter(0, -2), -1);
        due("what 2", x.letter(2, 0), -1);
        due("what -1", x.letter(-1, -1), -1);
        due("NONE ahead of -2", x.letter(2, 7), -1);
    }

    private static void digestsAndCounts() {
        fresh(40, "board 1 1 limit 3;drum 2 'abc';row 0 'c';lose 0 7");
        // ((((((17 * 31 + 0) * 31 + 2) * 31 + 2) * 31 + 2) * 31 + 7) * 31 + worn
        long h = 17;
        for (int v : new int[] {0, 2, 2, 2, 7, 0}) h = 31 * h + v;
        due("digest", x.digest(), h);
        x.wear(0, 1);
        due("digest", x.digest(), h + 2);
        promise(41);
        tape("abc");
        x.keep(0);
        int[] counts = {1, 1, 1, 3, 1, 1, 3, 1, 0};
        for (int what = 0; what < 9; what++) due("count " + what, x.count(what), counts[what]);
        row(0, "a");
        due("turn", x.count(8), 1);
        x.limit(1);
        due("turn", x.count(8), 0);
        due("count 9", x.count(9), -1);
        due("count -1", x.count(-1), -1);
    }

    /** Numbers at the ends of int never make the machine throw. */
    private static void extremes() {
        for (int round = 0; round < 2; round++) {
            fresh(41, round == 0 ? null : SAMPLE);
            for (int v : new int[] {Integer.MIN_VALUE, Integer.MAX_VALUE, -1000, 1000}) {
                due("end", x.end(v), -1);
                due("row", x.row(v), -1);
                due("tick", x.tick(v), -1);
                due("lose", x.lose(v, v), -1);
                due("wear", x.wear(v, v), -1);
                due("mend", x.mend(v, v), -1);
                due("limit", x.limit(v), -1);
                due("exchange", x.exchange(v, v, v), -1);
                due("keep", x.keep(v), -1);
                due("back", x.back(v), -1);
                due("cell", x.cell(v, v), -1);
                due("worn", x.worn(v), -1);
                due("drum", x.drum(v, v), -1);
                due("sign", x.sign(v, v), -1);
                due("at", x.at(v, v, v), -1);
                due("which", x.which(v), -1);
                due("left", x.left(v), -1);
                due("when", x.when(v), -1);
                due("loudest", x.loudest(v), -1);
                due("total", x.total(v), -1);
                due("cost", x.cost(v), -1);
                due("best", x.best(v, v), -1);
                due("place", x.place(v, v), -1);
                due("log", x.log(v, v), -1);
                due("often", x.often(v, v, true), -1);
                due("usual", x.usual(v, v), -1);
                due("better", x.better(v, v), -1);
                due("farthest", x.farthest(v, v), -1);
                due("lacks", x.lacks(v, v), -1);
                due("rests", x.rests(v), -1);
                due("unlike", x.unlike(v, v), -1);
                due("letter", x.letter(v, v), -1);
                due("letter", x.letter(0, Math.abs(v | 1)), -2);
                due("count", x.count(v), -1);
            }
        }
    }
}
