/** Sentences about a board and the text that tells it, each with its boundary cases. */
public final class BoardTextSentencesTest extends Sentences {
    private static final String DRUM = ";drum 1 'ab'";
    private static final String ONE = "board 1 1 limit 5" + DRUM;
    private static final int BEHIND_ONE = ONE.length();

    public static void main(String[] args) {
        sizes();
        drums();
        signs();
        cellsParts();
        otherParts();
        order();
        wordsNumbersBlanks();
        quoted();
        faultPlaces();
        textEnds();
        numbersNotAsTold();
        signsNotAsTold();
        drumFaults();
        whichFault();
        finishAll();
    }

    private static void sizes() {
        on("ROWS 0, 1, .. (1 to 6, 0 the topmost)");
        fault("board 0 1 limit 5" + DRUM, 6, 2);
        told("board 1 1 limit 5" + DRUM, 1);
        due("rows", x.count(0), 1);
        told("board 6 1 limit 5" + DRUM, 1);
        due("rows", x.count(0), 6);
        fault("board 7 1 limit 5" + DRUM, 6, 2);
        told("board 2 1 limit 5" + DRUM + ";row 0 'b'", 1);
        shown("the topmost first", letters(0), "b/a");

        on("WIDE 1 to 10");
        fault("board 1 0 limit 5" + DRUM, 8, 2);
        told("board 1 1 limit 5" + DRUM, 1);
        due("wide", x.count(1), 1);
        told("board 1 10 limit 5" + DRUM, 1);
        due("wide", x.count(1), 10);
        fault("board 1 11 limit 5" + DRUM, 8, 2);

        on("40 CELLS at the most");
        told("board 4 10 limit 5" + DRUM, 1);
        due("cells", x.count(2), 40);
        told("board 5 8 limit 5" + DRUM, 1);
        due("cells", x.count(2), 40);
        fault("board 5 9 limit 5" + DRUM, 8, 2);
        told("board 6 6 limit 5" + DRUM, 1);
        due("cells", x.count(2), 36);
        fault("board 6 7 limit 5" + DRUM, 8, 2);

        on("by numbers row by row");
        told("board 2 3 limit 5" + DRUM + ";row 0 '  b';row 1 'b'", 1);
        cells(1, 0, 0, 1, 1, 0, 0);

        on("a LIMIT 1 to 99");
        fault("board 1 1 limit 0" + DRUM, 16, 2);
        told("board 1 1 limit 1" + DRUM, 1);
        due("limit", x.count(3), 1);
        told("board 1 1 limit 99" + DRUM, 1);
        due("limit", x.count(3), 99);
        fault("board 1 1 limit 100" + DRUM, 16, 2);
    }

    private static void drums() {
        on("DRUMS 0, 1, .. (1 to 4)");
        fault("board 1 1 limit 5", 17, 4);
        told(ONE, 1);
        told(ONE + DRUM, 2);
        told(ONE + DRUM + DRUM, 3);
        told(ONE + DRUM + DRUM + ";drum 3 'xyz'", 4);
        due("drums", x.count(4), 4);
        due("the last one's flaps", x.drum(3, 1), 3);
        due("none behind it", x.drum(4, 1), -1);
        fault(ONE + DRUM + DRUM + DRUM + DRUM, BEHIND_ONE + 37, 3);

        on("a CURRENT 1 to 9");
        fault("board 1 1 limit 5;drum 0 'ab'", 23, 2);
        told("board 1 1 limit 5;drum 1 'ab'", 1);
        due("current", x.drum(0, 0), 1);
        told("board 1 1 limit 5;drum 9 'ab'", 1);
        due("current", x.drum(0, 0), 9);
        fault("board 1 1 limit 5;drum 10 'ab'", 23, 2);

        on("2 to 40 FLAPS 0, 1, ..");
        fault("board 1 1 limit 5;drum 1 'a'", 27, 2);
        told("board 1 1 limit 5;drum 1 'ab'", 1);
        due("flaps", x.drum(0, 1), 2);
        told("board 1 1 limit 5;drum 1 '" + FORTY + "'", 1);
        due("flaps", x.drum(0, 1), 40);
        due("the last sign", x.sign(0, 39), '9');
        fault("board 1 1 limit 5;drum 1 '" + FORTY + "a'", 66, 2);

        on("FLAP 0 is HOME");
        told("board 1 1 limit 5;drum 1 'xyz';row 0 'z'", 1);
        due("row of nothing", row(0, ""), 0);
        due("wants", x.cell(0, 3), 0);

        on("Each CELL has a DRUM");
        told("board 2 2 limit 5;drum 1 'ab';drum 1 'xy';cells 1 2 1", 2);
        cells(0, 0, 1, 1, 0);
        due("cells of drum 0", x.drum(0, 2), 2);
        due("cells of drum 1", x.drum(1, 2), 2);
    }

    private static void signs() {
        on("each with a SIGN (a byte 32 to 126, but not 39; several may have one SIGN)");
        fault("board 1 1 limit 5;drum 1 '\u001fb'", 26, 1);
        told("board 1 1 limit 5;drum 1 ' b'", 1);
        due("sign", x.sign(0, 0), 32);
        told("board 1 1 limit 5;drum 1 'b~'", 1);
        due("sign", x.sign(0, 1), 126);
        fault("board 1 1 limit 5;drum 1 '\u007fb'", 26, 1);
        fault("board 1 1 limit 5;drum 1 'a\u00ffb'", 27, 1);
        fault("board 1 1 limit 5;drum 1 'a\u0000b'", 27, 1);
        // 39 is the end, and what stands behind it cannot stand there
        fault("board 1 1 limit 5;drum 1 'ab'c'", 29, 1);
        told("board 1 1 limit 5;drum 1 '&(&('", 1);
        due("unlike signs", x.drum(0, 3), 2);
        told("board 1 1 limit 5;drum 1 '~~~'", 1);
        due("flaps with one sign", x.drum(0, 4), 3);
    }

    private static void cellsParts() {
        on("CELLS from one on to another one get a DRUM");
        String two = "board 2 2 limit 5;drum 1 'ab';drum 1 'xy'";
        told(two + ";cells 1 1 1", 2);
        cells(0, 0, 1, 0, 0);
        told(two + ";cells 0 3 1", 2);
        cells(0, 1, 1, 1, 1);
        told(two + ";cells 0 3 1;cells 3 3 0", 2);
        cells(0, 1, 1, 1, 0);

        on("(DRUM 0 without)");
        told(two, 2);
        cells(0, 0, 0, 0, 0);

        on("all as at first");
        told("board 1 2 limit 5;drum 1 'abc';row 0 'bb';worn 0 1;worn 1 2;lose 0 3;lose 1 4;cells 0 0 0", 1);
        cells(1, 0, 1);
        cells(2, 0, 1);
        cells(3, 0, 1);
        cells(5, 0, 4);
        due("worn", x.worn(0), 0);
        due("worn", x.worn(1), 4);
    }

    private static void otherParts() {
        String three = "board 1 2 limit 5;drum 1 'abc';drum 1 'xyzw';cells 1 1 1";
        int behind = three.length();
        on("worn CELL FLAP");
        told(three + ";worn 0 1;worn 1 3", 2);
        due("worn", x.worn(0), 2);
        due("worn", x.worn(1), 8);
        told(three + ";worn 0 2", 2);
        fault(three + ";worn 0 3", behind + 8, 2);
        fault(three + ";worn 1 4", behind + 8, 2);
        fault(three + ";worn 2 1", behind + 6, 2);

        on("row ROW QUOTED | lose CELL NUMBER (0 to 9)");
        told(three + ";row 0 'cw'", 2);
        cells(1, 2, 3);
        fault(three + ";row 1 'cw'", behind + 5, 2);
        told(three + ";lose 0 9;lose 1 0", 2);
        cells(5, 9, 0);
        told(three + ";lose 1 4;lose 1 4;lose 1 5", 2);
        cells(5, 0, 5);
        fault(three + ";lose 0 10", behind + 8, 2);
        fault(three + ";lose 2 1", behind + 6, 2);
    }

    private static void order() {
        on("DRUMS are told ahead of what names them");
        told("board 1 1 limit 5;drum 1 'ab';drum 1 'xy';cells 0 0 1", 2);
        fault("board 1 1 limit 5;drum 1 'ab';cells 0 0 1;drum 1 'xy'", 40, 2);
        told("board 1 1 limit 5;drum 1 'ab';cells 0 0 0;drum 1 'xy';cells 0 0 1", 2);
        due("drum", x.cell(0, 0), 1);

        on("the first one ahead of worn, row, lose");
        fault("board 1 1 limit 5;worn 0 1" + DRUM, 18, 3);
        fault("board 1 1 limit 5;row 0 'a'" + DRUM, 18, 3);
        fault("board 1 1 limit 5;lose 0 1" + DRUM, 18, 3);
        told(ONE + ";worn 0 1;row 0 'a';lose 0 1" + DRUM, 2);
    }

    private static void wordsNumbersBlanks() {
        on("WORDS are small letters");
        fault("Board 1 1 limit 5" + DRUM, 0, 1);
        fault("board 1 1 liMit 5" + DRUM, 10, 1);
        fault("board`1 1 limit 5" + DRUM, 5, 1);
        fault("board{1 1 limit 5" + DRUM, 5, 1);
        fault("boardz 1 1 limit 5" + DRUM, 0, 1);
        fault("boarda 1 1 limit 5" + DRUM, 0, 1);
        // each letter counts
        for (String word : new String[] {"drum", "cells", "worn", "row", "lose"}) {
            for (int k = 0; k < word.length(); k++) {
                fault(ONE + ";" + word.substring(0, k) + "q" + word.substring(k + 1) + " 0 0 0", BEHIND_ONE + 1, 1);
                fault(ONE + ";" + word.substring(0, k) + word.substring(k + 1) + " 0 0 0", BEHIND_ONE + 1, 1);
            }
        }
        for (int k = 0; k < 5; k++) {
            fault("board".substring(0, k) + "q" + "board".substring(k + 1) + " 1 1 limit 5", 0, 1);
            fault("board 1 1 " + "limit".substring(0, k) + "q" + "limit".substring(k + 1) + " 5", 10, 1);
        }

        on("NUMBERS digits, as far as they go on");
        // letters go on into no digit, digits into no letter; "11" is one number
        told("board1 1limit5;drum1'ab'", 1);
        fault("board 11limit 5" + DRUM, 6, 2);
        fault("boardlimit 1 1 limit 5" + DRUM, 0, 1);
        fault("board 1 1 limit 5;drum 1 'ab';rowrow 0 'a'", 30, 1);
        told("board 0001 01 limit 099;drum 009 'ab'", 1);
        due("current", x.drum(0, 0), 9);
        fault("board 1/1 limit 5" + DRUM, 7, 1);
        fault("board 1:1 limit 5" + DRUM, 7, 1);
        fault("board -1 1 limit 5" + DRUM, 6, 1);
        fault("board +1 1 limit 5" + DRUM, 6, 1);

        on("blanks (32) stand between as one likes");
        told("   board   1   1   limit   5   ;   drum   1   'ab'   ;   row   0   'b'   ", 1);
        due("shows", x.cell(0, 1), 1);
        told("board1 1limit5;drum1'ab';drum1'xy';cells0 0 1;row0'y';lose0 3;worn0 1", 2);
        due("shows", x.cell(0, 1), 1);
        fault("board\t1 1 limit 5" + DRUM, 5, 1);
        fault("board\n1 1 limit 5" + DRUM, 5, 1);
        fault("bo ard 1 1 limit 5" + DRUM, 0, 1);
        fault("board 1 1 limit 5 0" + DRUM, 18, 1);
        fault(ONE + "\u0000", BEHIND_ONE, 1);

        on("A TEXT of at most 400 bytes tells a BOARD");
        told(ONE + " ".repeat(400 - BEHIND_ONE), 1);
        told(" ".repeat(400 - BEHIND_ONE) + ONE, 1);
        fault(" ".repeat(400), 400, 1);
        fault("board 1 1 limit 5" + " ".repeat(383), 400, 4);
        tape(" ".repeat(380) + "   board 1 1 limit 5");
        due("a byte more does not come", x.feed(0, 0, 0, 0, 0), -1);
        due("tell", x.tell(), -2 - (8 * 400 + 4));
    }

    private static void quoted() {
        on("QUOTED: ' SIGNS ' (none may be there)");
        told(ONE + ";row 0 'b';row 0 ''", 1);
        due("shows home", x.cell(0, 1), 0);
        fault("board 1 1 limit 5;drum 1 ''", 26, 2);
        fault(ONE + ";row 0 b'", 36, 1);
        fault(ONE + ";row 0 \"b\"", 36, 1);

        on("not within QUOTED");
        told("board 1 3 limit 5;drum 1 'a b';row 0 ' b '", 1);
        cells(1, 1, 2, 1);
        due("flaps", x.drum(0, 1), 3);
        fault(ONE + ";row 0 'b '", 38, 2);
    }

    private static void faultPlaces() {
        on("8 times its place (0 the first byte)");
        fault("x", 0, 1);
        fault(" x", 1, 1);
        fault(" ".repeat(399) + ";", 399, 1);

        on("1 a byte or WORD that cannot stand there");
        fault("1 1 limit 5" + DRUM, 0, 1);
        fault(";" + ONE, 0, 1);
        fault("limit 1 1 limit 5" + DRUM, 0, 1);
        fault("board one 1 limit 5" + DRUM, 6, 1);
        fault("board 1 limit 5" + DRUM, 8, 1);
        fault("board 1 1 5" + DRUM, 10, 1);
        fault("board 1 1 board 5" + DRUM, 10, 1);
        fault("board 1 1 limit" + DRUM, 15, 1);
        fault("board 1 1 limit x" + DRUM, 16, 1);
        fault("board 1 1 limit 5 drum 1 'ab'", 18, 1);
        fault("board 1 1 limit 5;;drum 1 'ab'", 18, 1);
        fault("board 1 1 limit 5;drum 'ab'", 23, 1);
        fault("board 1 1 limit 5;drum 1 1 'ab'", 25, 1);
        fault("board 1 1 limit 5;board 1 1 limit 5", 18, 1);
        fault("board 1 1 limit 5;limit 5", 18, 1);
        for (String word : new String[] {"scroll", "home", "wait", "settle", "times", "drums", "dru", "cell", "worns", "lost"}) {
            fault(ONE + ";" + word, BEHIND_ONE + 1, 1);
            fault("board 1 1 limit 5;" + word, 18, 1);
        }
        fault(ONE + "row 0 'a'", BEHIND_ONE, 1);
        fault(ONE + ";cells x", 36, 1);
        fault(ONE + ";cells 0 x", 38, 1);
        fault(ONE + ";cells 0 0 x", 40, 1);
        fault(ONE + ";worn x", 35, 1);
        fault(ONE + ";worn 0 x", 37, 1);
        fault(ONE + ";row x", 34, 1);
        fault(ONE + ";row 0 x", 36, 1);
        fault(ONE + ";row 0 '\u001f'", 37, 1);
        fault(ONE + ";row 0 '\u007f'", 37, 1);
        fault(ONE + ";lose x", 35, 1);
        fault(ONE + ";lose 0 x", 37, 1);
        fault(ONE + ";lose 0 1 1", 39, 1);
        fault(ONE + ")", BEHIND_ONE, 1);
    }

    private static void textEnds() {
        on("or the text ends (the place behind its last byte)");
        String drum = "board 1 1 limit 5;drum 1 '";
        String[] begun = {"", "board", "board 1", "board 1 1", "board 1 1 limit", "board 1 1 limit 5;", "board 1 1 limit 5;drum",
            "board 1 1 limit 5;drum 1", ONE + ";", ONE + ";cells", ONE + ";cells 0", ONE + ";cells 0 0", ONE + ";worn",
            ONE + ";worn 0", ONE + ";row", ONE + ";row 0", ONE + ";lose", ONE + ";lose 0"};
        for (String s : begun) {
            fault(s, s.length(), 1);
            fault(s + "  ", s.length() + 2, 1);
        }
        for (String s : new String[] {drum, drum + "a", drum + "ab", drum + "a ", drum + FORTY, ONE + ";row 0 '", ONE + ";row 0 'a"}) {
            fault(s, s.length(), 1);
        }
        // a word that is cut is no word of ours: where it begins
        fault("boar", 0, 1);
        fault(ONE + ";los", BEHIND_ONE + 1, 1);
    }

    private static void numbersNotAsTold() {
        on("2 a NUMBER (where it begins) that is not as told");
        fault("board   7 1 limit 5", 8, 2);
        fault("board 10 1 limit 5", 6, 2);
        fault("board 1 100 limit 5", 8, 2);
        fault("board 1 1 limit 1000", 16, 2);
        fault("board 1 1 limit 5;drum 11 'ab'", 23, 2);
        // no number goes round: 2^32 + 1, 2^64 + 1, ten times a great one
        fault("board 4294967297 1 limit 5" + DRUM, 6, 2);
        fault("board 18446744073709551617 1 limit 5" + DRUM, 6, 2);
        fault("board 1 1 limit " + "9".repeat(300), 16, 2);
        fault(ONE + ";lose 4294967296 1", 35, 2);
        fault(ONE + ";cells 1 1 0", 36, 2);
        fault(ONE + ";cells 0 1 0", 38, 2);
        fault(ONE + ";cells 0 0 1", 40, 2);

        on("WIDE, too, by which there are more than 40 CELLS");
        fault("board 6  7 limit 5" + DRUM, 9, 2);
        fault("board 5 10 limit 5" + DRUM, 8, 2);

        on("TO below FROM");
        String three = "board 1 3 limit 5" + DRUM;
        fault(three + ";cells 2 1 0", 38, 2);
        fault(three + ";cells 1 0 0", 38, 2);
        told(three + ";cells 2 2 0", 1);

        on("FLAP 0; a FLAP that is WORN");
        fault(ONE + ";worn 0 0", 37, 2);
        fault(ONE + ";worn 0 00", 37, 2);
        fault(ONE + ";worn 0 1;worn 0 1", 46, 2);
        told("board 1 2 limit 5" + DRUM + ";worn 0 1;worn 1 1", 1);
        told(ONE + ";worn 0 1;cells 0 0 0;worn 0 1", 1);
    }

    private static void signsNotAsTold() {
        on("the 41st SIGN of a drum");
        fault("board 1 1 limit 5;drum 1 '" + FORTY + "ab'", 66, 2);
        fault("board 1 1 limit 5;drum 1 '" + FORTY + " '", 66, 2);

        on("the SIGN of a row that is beyond WIDE");
        fault(ONE + ";row 0 'ab'", 38, 2);
        fault("board 1 10 limit 5" + DRUM + ";row 0 '0123456789 '", 48, 2);
        told("board 1 10 limit 5" + DRUM + ";row 0 '0123456789'", 1);

        on("the sign ' behind fewer than two SIGNS of a drum");
        fault("board 1 1 limit 5;drum 1 ''", 26, 2);
        fault("board 1 1 limit 5;drum 1 'a';drum 1 'ab'", 27, 2);
        fault("board 1 1 limit 5;drum 1 ' '", 27, 2);
    }

    private static void drumFaults() {
        on("3 the WORD drum of a fifth one");
        String four = ONE + DRUM + DRUM + DRUM;
        fault(four + ";drum", four.length() + 1, 3);
        fault(four + "; drum 1 'ab'", four.length() + 2, 3);
        fault(four + ";drum 0 ''", four.length() + 1, 3);
        told(four + ";cells 0 0 3", 4);

        on("the WORDS cells, worn, row, lose where there is no DRUM yet");
        for (String word : new String[] {"cells", "worn", "row", "lose"}) {
            fault("board 1 1 limit 5;" + word, 18, 3);
            fault("board 1 1 limit 5; " + word + " 99 99 99", 19, 3);
        }

        on("4 (the place behind the last byte) there is no DRUM");
        fault("board 1 1 limit 5", 17, 4);
        fault("board 6 6 limit 99   ", 21, 4);
    }

    private static void whichFault() {
        on("the first that is met as it is read");
        fault("board 7 11 limit 0", 6, 2);
        fault("board 1 11 limit 0", 8, 2);
        fault("board 1 1 limit 0;x", 16, 2);
        fault(ONE + ";worn 1 9;x", 35, 2);
        fault(ONE + ";row 1 'aaa'", 34, 2);
        fault(ONE + ";row 0 'aa\u0001", 38, 2);
        fault(ONE + ";cells 5 4 3", 36, 2);

        on("Of one place the least");
        fault("board 1 1 limit 5;", 18, 1);
        fault("board 1 1 limit 5;drum 1 '" + FORTY + "\u0001'", 66, 1);
        fault(ONE + ";row 0 'a\u0001'", 38, 1);
        fault("board 1 1 limit 5;drum 1 'a", 27, 1);
        fault("board 1 1 limit", 15, 1);
    }
}
