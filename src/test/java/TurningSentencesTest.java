/** Sentences of part II about cells, what they want, how they turn, scrolls and logs, each with its boundary cases. */
public final class TurningSentencesTest extends Sentences {
    private static final String FOUR_FLAPS = "board 1 1 limit 9;drum 1 'abcd'";

    public static void main(String[] args) {
        atFirst();
        leftRoundAbout();
        stepsOn();
        homeFound();
        homeNotFound();
        wantingSigns();
        missing();
        wantingRows();
        toldRows();
        wornAsWanted();
        ticksInOrder();
        ticksByLimit();
        clatter();
        scrolling();
        scrollingMisses();
        logging();
        journeys();
        finishAll();
    }

    /** What a cell shows, believes, wants, loses. */
    private static void state(int cell, int shows, int believes, int wants, int loses) {
        due("shows", x.cell(cell, 1), shows);
        due("believes", x.cell(cell, 2), believes);
        due("wants", x.cell(cell, 3), wants);
        due("loses", x.cell(cell, 5), loses);
    }

    private static void atFirst() {
        on("one it WANTS (HOME all at first), how many steps it LOSES, WORN FLAPS (never HOME)");
        told("board 1 2 limit 9;drum 1 'abcd'", 1);
        for (int cell = 0; cell < 2; cell++) {
            state(cell, 0, 0, 0, 0);
            due("worn", x.worn(cell), 0);
            for (int what = 4; what <= 8; what++) due("cell what " + what, x.cell(cell, what), 0);
        }
        due("home is never worn", x.wear(0, 0), -1);
        fault("board 1 2 limit 9;drum 1 'abcd';worn 0 0", 39, 2);
        due("worn", x.worn(0), 0);
    }

    private static void leftRoundAbout() {
        on("LEFT: how many FLAPS on from what it BELIEVES that which it WANTS is, round about");
        told(FOUR_FLAPS + ";row 0 'd'", 1);
        due("none", x.cell(0, 4), 0);
        row(0, "a");
        due("behind the last one", x.cell(0, 4), 1);
        row(0, "c");
        due("all but one", x.cell(0, 4), 3);
        row(0, "d");
        due("none again", x.cell(0, 4), 0);
        told("board 1 1 limit 9;drum 1 'ab';row 0 'b'", 1);
        row(0, "a");
        due("of two", x.cell(0, 4), 1);
    }

    private static void stepsOn() {
        on("it BELIEVES the next FLAP (HOME behind the last one)");
        told(FOUR_FLAPS + ";row 0 'c'", 1);
        row(0, "b");
        x.tick(1);
        due("believes the last", x.cell(0, 2), 3);
        x.tick(1);
        due("believes home", x.cell(0, 2), 0);
        x.tick(1);
        due("believes the first behind home", x.cell(0, 2), 1);
        due("nothing found", x.cell(0, 7), 0);

        on("does it LOSE a step, it LOSES one less");
        told(FOUR_FLAPS + ";lose 0 2", 1);
        row(0, "d");
        x.tick(1);
        state(0, 0, 1, 3, 1);
        x.tick(1);
        state(0, 0, 2, 3, 0);
        x.tick(1);
        state(0, 1, 3, 3, 0);
        due("steps, the lost ones, too", x.cell(0, 6), 3);

        on("else it SHOWS the next FLAP likewise");
        told(FOUR_FLAPS + ";row 0 'd'", 1);
        row(0, "b");
        x.tick(1);
        state(0, 0, 0, 1, 0);
        x.tick(1);
        state(0, 1, 1, 1, 0);
        due("nothing more", x.tick(1), 0);
        state(0, 1, 1, 1, 0);
    }

    private static void homeFound() {
        on("comes it to SHOW HOME so, it BELIEVES HOME (if it did not, what it BELIEVED is FOUND: so many steps more)");
        told(FOUR_FLAPS + ";lose 0 2", 1);
        row(0, "d");
        x.settle();
        // shows 1, believes 3: home is shown as 2 is believed
        row(0, "c");
        due("left", x.cell(0, 4), 3);
        x.tick(2);
        state(0, 3, 1, 2, 0);
        x.tick(1);
        state(0, 0, 0, 2, 0);
        due("found", x.cell(0, 7), 2);
        due("left again", x.cell(0, 4), 2);
        due("two more", x.settle(), 2);
        state(0, 2, 2, 2, 0);
        due("found", x.cell(0, 7), 2);
        due("found in all", x.total(3), 2);
        // once more: so many more
        x.lose(0, 1);
        row(0, "d");
        x.settle();
        row(0, "b");
        x.settle();
        due("one more", x.cell(0, 7), 3);
        state(0, 1, 1, 1, 0);
        // the flap wanted is believed as home is found: it was not come to
        told(FOUR_FLAPS + ";lose 0 1", 1);
        row(0, "d");
        x.settle();
        row(0, "b");
        x.tick(2);
        state(0, 0, 0, 1, 0);
        due("found", x.cell(0, 7), 1);
        due("left", x.cell(0, 4), 1);
    }

    private static void homeNotFound() {
        on("comes it to SHOW HOME so");
        // as a step is lost on home nothing comes to show it
        told(FOUR_FLAPS + ";lose 0 1", 1);
        row(0, "b");
        x.tick(1);
        state(0, 0, 1, 1, 0);
        due("nothing found", x.cell(0, 7), 0);
        due("nothing left", x.cell(0, 4), 0);
        // home believed, another one shown: so it stays
        told(FOUR_FLAPS + ";lose 0 1", 1);
        row(0, "d");
        x.settle();
        row(0, "");
        x.settle();
        state(0, 3, 0, 0, 0);
        due("shows another", x.which(1), 1);
        due("nothing found", x.cell(0, 7), 0);
        // home believed as it is shown
        told(FOUR_FLAPS + ";row 0 'd'", 1);
        row(0, "");
        x.settle();
        state(0, 0, 0, 0, 0);
        due("nothing found", x.cell(0, 7), 0);
        // a whole round lost: no mark tells it
        told(FOUR_FLAPS + ";lose 0 4", 1);
        row(0, "d");
        x.settle();
        row(0, "a");
        x.settle();
        state(0, 0, 0, 0, 0);
        due("nothing found", x.cell(0, 7), 0);
    }

    private static void wantingSigns() {
        on("of its FLAPS with it that are not WORN that which is fewest on from what it BELIEVES");
        told("board 1 1 limit 9;drum 1 'ababc'", 1);
        due("row", row(0, "b"), 0);
        due("the nearest", x.cell(0, 3), 1);
        x.settle();
        row(0, "b");
        due("what it believes", x.cell(0, 3), 1);
        row(0, "a");
        due("the next one", x.cell(0, 3), 2);
        row(0, "c");
        x.settle();
        row(0, "b");
        due("round about", x.cell(0, 3), 1);
        row(0, "a");
        due("home, round about", x.cell(0, 3), 0);
        x.wear(0, 1);
        row(0, "b");
        due("the one that is not worn", x.cell(0, 3), 3);
        x.settle();
        x.wear(0, 3);
        x.mend(0, 1);
        row(0, "b");
        due("not the worn one that it believes", x.cell(0, 3), 1);
        // from what it believes, not from what it shows
        told("board 1 1 limit 9;drum 1 'abcb';lose 0 2", 1);
        row(0, "c");
        x.settle();
        state(0, 0, 2, 2, 0);
        row(0, "b");
        due("on from what it believes", x.cell(0, 3), 3);
    }

    private static void missing() {
        on("is there none, it MISSES: all stays");
        told("board 1 2 limit 9;drum 1 'abcd'", 1);
        row(0, "cd");
        due("both", row(0, "xx"), 2);
        cells(3, 2, 3);
        due("one", row(0, "xb"), 1);
        cells(3, 2, 1);
        x.wear(0, 3);
        due("a worn one", row(0, "db"), 1);
        cells(3, 2, 1);
        x.mend(0, 3);
        due("mended", row(0, "db"), 0);
        cells(3, 3, 1);
    }

    private static void wantingRows() {
        on("A ROW WANTS SIGNS from the first CELL on");
        told("board 2 3 limit 9;drum 1 'abcd'", 1);
        row(1, "bcd");
        cells(3, 0, 0, 0, 1, 2, 3);
        row(0, "dcb");
        cells(3, 3, 2, 1, 1, 2, 3);
        row(0, "");
        cells(3, 0, 0, 0, 1, 2, 3);

        on("CELLS behind the last SIGN WANT HOME (that never MISSES)");
        told("board 1 3 limit 9;drum 1 'abcd';row 0 'ddd';worn 2 1;worn 2 2;worn 2 3", 1);
        due("row", row(0, "c"), 0);
        cells(3, 2, 0, 0);
        row(0, "ccc");
        due("row of nothing", row(0, ""), 0);
        cells(3, 0, 0, 0);
        // home, though a nearer flap has its sign
        told("board 1 1 limit 9;drum 1 'aba';row 0 'b'", 1);
        row(0, "");
        due("home", x.cell(0, 3), 0);
        row(0, "a");
        due("by its sign", x.cell(0, 3), 2);
    }

    private static void toldRows() {
        on("By a row that a TEXT tells it SHOWS and BELIEVES what it WANTS at once (one that MISSES, too)");
        told("board 1 2 limit 9;drum 1 'abcd';row 0 'cd'", 1);
        state(0, 2, 2, 2, 0);
        state(1, 3, 3, 3, 0);
        told("board 1 2 limit 9;drum 1 'abcd';row 0 'cd';row 0 'xb'", 1);
        state(0, 2, 2, 2, 0);
        state(1, 1, 1, 1, 0);
        // it wants home for a worn flap, and shows that though it misses
        told("board 1 1 limit 9;drum 1 'abcd';row 0 'c';worn 0 2", 1);
        state(0, 2, 2, 0, 0);
        told("board 1 1 limit 9;drum 1 'abcd';row 0 'c';worn 0 2;row 0 'c'", 1);
        state(0, 0, 0, 0, 0);
        told("board 2 1 limit 9;drum 1 'abcd';lose 0 5;row 0 'c'", 1);
        state(0, 2, 2, 2, 5);
        state(1, 0, 0, 0, 0);
        due("no steps", x.total(2), 0);
        // no other row, whichever is told first
        told("board 3 2 limit 9;drum 1 'abcd';row 2 'dd';row 0 'bb';row 1 'cc'", 1);
        shown("shown", letters(0), "bb/cc/dd");
        told("board 3 2 limit 9;drum 1 'abcd';row 2 'dd';row 0 'b';row 1 ''", 1);
        shown("shown", letters(0), "ba/aa/dd");
    }

    private static void wornAsWanted() {
        on("A FLAP that gets WORN as it is WANTED: HOME is WANTED");
        told(FOUR_FLAPS, 1);
        row(0, "c");
        x.wear(0, 3);
        due("another one: it stays", x.cell(0, 3), 2);
        x.tick(1);
        x.wear(0, 1);
        due("what it believes: it stays", x.cell(0, 3), 2);
        x.wear(0, 2);
        state(0, 1, 1, 0, 0);
        due("left", x.cell(0, 4), 3);
        due("not in the log", x.log(0, 1), 1);
        x.mend(0, 2);
        due("mended: home still", x.cell(0, 3), 0);
        told("board 1 2 limit 9;drum 1 'abcd';row 0 'cc';worn 1 2", 1);
        state(0, 2, 2, 2, 0);
        state(1, 2, 2, 0, 0);
    }

    /** The cells that turn, tick by tick, as bits. */
    private static void turns(long... bits) {
        for (long due : bits) {
            due("who turns", x.which(3), due);
            due("how many turn", x.count(8), Long.bitCount(due));
            due("tick", x.tick(1), Long.bitCount(due));
        }
    }

    private static void ticksInOrder() {
        on("of CELLS with something LEFT those with more first, of like ones the lesser number first");
        told("board 1 3 limit 1;drum 1 'abcd'", 1);
        row(0, "bdd");
        turns(0b010, 0b100, 0b010, 0b100, 0b001, 0b010, 0b100, 0, 0);
        // from one row to another, the most left at the end
        told("board 2 2 limit 2;drum 1 '" + FORTY + "'", 1);
        row(0, "12");
        row(1, "19");
        turns(0b1010, 0b1001, 0b1010, 0b1100, 0b1000);
    }

    private static void ticksByLimit() {
        on("its CURRENT and those of all that TURN already in this TICK are together no more than LIMIT");
        told("board 1 3 limit 6;drum 3 'abcd'", 1);
        row(0, "bbb");
        due("just the limit", x.which(3), 0b011);
        x.limit(5);
        due("one less", x.which(3), 0b001);
        x.limit(3);
        due("just one", x.which(3), 0b001);
        x.limit(2);
        due("none", x.which(3), 0);
        x.limit(9);
        due("all", x.which(3), 0b111);
        x.limit(8);
        due("two", x.which(3), 0b011);

        on("else it waits (later ones may TURN)");
        told("board 1 4 limit 5;drum 4 'abcd';drum 2 'abcd';drum 1 'abcd';cells 1 2 1;cells 3 3 2", 3);
        row(0, "dddb");
        // 4 + 2 is too much, 4 + 1 is not; then both of 2, and in turns with them the one of 4
        turns(0b1001, 0b0110, 0b0001, 0b0110, 0b0001, 0b0110);
        due("nothing left", x.left(0), 0);
        told("board 1 2 limit 2;drum 3 'abcd';drum 2 'abcd';cells 1 1 1", 2);
        row(0, "db");
        turns(0b10, 0, 0);
        due("the one above the limit waits still", x.cell(0, 4), 3);
    }

    private static void clatter() {
        on("CLATTER of a TICK: how many TURN, times itself");
        told("board 1 3 limit 9;drum 1 'abcd'", 1);
        row(0, "bbb");
        x.tick(1);
        due("three", x.total(0), 9);
        x.tick(1);
        due("none", x.total(0), 9);
        row(0, "bbc");
        x.tick(1);
        due("one", x.total(0), 10);
        row(0, "bcd");
        x.tick(1);
        due("two", x.total(0), 14);
        told("board 4 10 limit 40;drum 1 'ab'", 1);
        ran("row 0 'bbbbbbbbbb';row 1 'bbbbbbbbbb';row 2 'bbbbbbbbbb';row 3 'bbbbbbbbbb';settle", 5);
        due("forty", x.total(0), 1600);
    }

    private static void scrolling() {
        on("each ROW WANTS what the one below it WANTED (SIGNS of the FLAPS WANTED there), all at once as it was ahead");
        told("board 3 1 limit 9;drum 1 'abcd';row 0 'b';row 1 'c';row 2 'd'", 1);
        due("scroll", scroll("a"), 0);
        shown("wanted", letters(1), "c/d/a");
        shown("shown still", letters(0), "b/c/d");
        // what is wanted goes up, not what is shown
        due("scroll", scroll("b"), 0);
        shown("wanted", letters(1), "d/a/b");
        // by signs: the drums have them on other flaps
        told("board 2 1 limit 9;drum 1 'abcd';drum 1 'dcba';cells 1 1 1;row 1 'c'", 2);
        due("scroll", scroll(""), 0);
        cells(3, 2, 0);
        // home below goes up by its sign
        told("board 2 1 limit 9;drum 1 'abcd';drum 1 'dcba';cells 1 1 1;row 0 'b'", 2);
        scroll("c");
        cells(3, 3, 1);

        on("the last one WANTS SIGNS told");
        told("board 1 2 limit 9;drum 1 'abcd'", 1);
        due("one row", scroll("bc"), 0);
        shown("wanted", letters(1), "bc");
        due("home behind them", scroll("d"), 0);
        shown("wanted", letters(1), "da");
    }

    private static void scrollingMisses() {
        on("SCROLL: each ROW WANTS");
        told("board 2 2 limit 9;drum 1 'abcd';drum 1 'axyz';cells 2 3 1;row 0 'bc';row 1 'xa'", 2);
        due("one above, one below", scroll("qy"), 2);
        shown("wanted", letters(1), "ba/xy");
        told("board 2 1 limit 9;drum 1 'abcd';row 1 'b';worn 0 1", 1);
        due("a worn one", scroll("b"), 1);
        shown("wanted", letters(1), "a/b");
        due("log", x.log(0, 1), 0);
    }

    private static void logging() {
        on("each time a CELL of it WANTS another FLAP than it BELIEVES by row, scroll");
        told("board 2 1 limit 9;drum 1 'abcd';drum 1 'abcd';cells 1 1 1", 2);
        row(0, "b");
        due("one", x.log(0, 1), 1);
        row(0, "b");
        due("each time", x.log(0, 1), 2);
        row(0, "a");
        due("what it believes", x.log(0, 1), 2);
        scroll("c");
        due("what it believes", x.log(0, 1), 2);
        due("another drum", x.log(1, 1), 1);
        scroll("c");
        due("by scroll", x.log(0, 1), 3);
        due("by scroll", x.log(1, 1), 2);
        row(1, "");
        due("home is what it believes", x.log(1, 1), 2);
        x.settle();
        row(0, "");
        due("home", x.often(0, 0, true), 1);

        on("(a program's, too, not by a BOARD's text, not where it MISSES)");
        told("board 2 1 limit 9;drum 1 'abcd';row 0 'c';row 1 'd'", 1);
        due("a text's", x.log(0, 1), 0);
        ran("row 0 'b'", 1);
        due("a program's row", x.log(0, 1), 1);
        ran("scroll 'a'", 1);
        due("a program's scroll", x.log(0, 1), 3);
        row(0, "x");
        due("missed, with something left", x.log(0, 1), 3);
        ran("home 0", 1);
        due("neither row nor scroll", x.log(0, 1), 3);

        on("cells, a new BOARD: LOG is empty (of all)");
        String two = "board 1 2 limit 9;drum 1 'abcd';drum 1 'abcd'";
        told(two + ";cells 1 1 1", 2);
        row(0, "bb");
        due("log", x.log(0, 1) + x.log(1, 1), 2);
        told(two, 2);
        due("log", x.log(0, 1) + x.log(1, 1), 0);
        row(0, "bb");
        told(two + ";cells 0 0 1", 2);
        due("log", x.log(0, 1) + x.log(1, 1), 0);
        row(0, "bb");
        fault("board", 5, 1);
        due("no new board: it stays", x.log(0, 1) + x.log(1, 1), 2);
    }

    private static void journeys() {
        on("JOURNEY: how many FLAPS on, round about, all of LOG together");
        told("board 1 2 limit 9;drum 1 'abcd';row 0 'cd'", 1);
        due("of nothing", x.log(0, 0), 0);
        row(0, "cb");
        due("3 to 1: 2", x.log(0, 0), 2);
        row(0, "da");
        due("2 to 3: 1, 3 to 0: 1", x.log(0, 0), 4);
        row(0, "bc");
        due("2 to 1: 3, 3 to 2: 3", x.log(0, 0), 10);
    }
}
