import java.util.Arrays;

/** Boards of split flaps, as the document promises them (see README.md). */
public final class FlapBoard {
    /** None. */
    public static final int NONE = -1;

    private static final int REFUSED = -2;
    private static final int HOME = 0;
    private static final int MOST_ROWS = 6;
    private static final int MOST_WIDE = 10;
    private static final int MOST_CELLS = 40;
    private static final int MOST_DRUMS = 4;
    private static final int MOST_FLAPS = 40;
    private static final int MOST_CURRENT = 9;
    private static final int MOST_LIMIT = 99;
    private static final int MOST_LOST = 9;
    private static final int MOST_WAIT = 99;
    private static final int MOST_TIMES = 20;
    private static final int MOST_OPEN = 3;
    private static final int MOST_DONE = 200;
    private static final int MOST_BYTES = 400;
    private static final int MOST_ACTS = 10;
    private static final int SHELF_COUNT = 2;
    // A cell makes at most 9 + 40 + 39 steps till it rests, 40 cells one by one 3520.
    private static final int MOST_TICKS = 9999;
    private static final int FIRST_SIGN = 32;
    private static final int LAST_SIGN = 126;
    private static final int QUOTE = 39;
    private static final int SLASH = 47;

    private static final int CANNOT_STAND = 1;
    private static final int NOT_AS_TOLD = 2;
    private static final int OUT_OF_TURN = 3;
    private static final int NO_DRUM = 4;

    private static final int WORD_BOARD = 1;
    private static final int WORD_LIMIT = 2;
    private static final int WORD_DRUM = 3;
    private static final int WORD_CELLS = 4;
    private static final int WORD_WORN = 5;
    private static final int WORD_ROW = 6;
    private static final int WORD_LOSE = 7;
    private static final int WORD_SCROLL = 8;
    private static final int WORD_HOME = 9;
    private static final int WORD_WAIT = 10;
    private static final int WORD_SETTLE = 11;
    private static final int WORD_TIMES = 12;

    private final Tape tape;
    private final Board board;
    private final Board trial;
    private final Motor motor;
    private final Program program;
    private final Past past;
    private final Board[] shelves;

    public FlapBoard() {
        tape = new Tape();
        board = new Board();
        trial = new Board();
        motor = new Motor();
        program = new Program();
        past = new Past();
        shelves = new Board[SHELF_COUNT];
    }

    // ---- the tape, and what it tells

    public int feed(int a, int b, int c, int d, int e) {
        if (tape.size + 20 > MOST_BYTES) {
            return NONE;
        }
        tape.addNumber(a);
        tape.addNumber(b);
        tape.addNumber(c);
        tape.addNumber(d);
        tape.addNumber(e);
        return tape.size;
    }

    public int end(int n) {
        if (n < 0 || n > tape.size) {
            return NONE;
        }
        tape.size = n;
        return n;
    }

    public int tell() {
        BoardText.readInto(trial, tape);
        tape.size = 0;
        if (!tape.isSound()) {
            return REFUSED - tape.fault;
        }
        board.copyAllButLog(trial);
        board.emptyLog();
        past.size = 0;
        return board.drums;
    }

    // ---- acts

    public int row(int row) {
        int answer = whyNotRow(row);
        if (answer == 0) {
            past.push(board);
            answer = board.wantSigns(row, tape, 0, tape.size);
        }
        tape.size = 0;
        return answer;
    }

    public int scroll() {
        int answer = whyNotRow(board.rows - 1);
        if (answer == 0) {
            past.push(board);
            answer = board.scrollUp(tape, 0, tape.size);
        }
        tape.size = 0;
        return answer;
    }

    public int tick(int n) {
        if (!board.isThere() || n < 1 || n > MOST_WAIT) {
            return NONE;
        }
        past.push(board);
        motor.turn(board, n);
        return motor.steps;
    }

    public int settle() {
        if (!board.isThere()) {
            return NONE;
        }
        motor.choose(board);
        if (motor.size == 0) {
            return REFUSED;
        }
        past.push(board);
        motor.turn(board, MOST_TICKS);
        return motor.ticks;
    }

    public int lose(int cell, int n) {
        if (!board.hasCell(cell) || n < 0 || n > MOST_LOST) {
            return NONE;
        }
        int before = board.loses[cell];
        if (before == n) {
            return REFUSED;
        }
        past.push(board);
        board.setLost(cell, n);
        return before;
    }

    public int wear(int cell, int flap) {
        if (!board.hasFlap(cell, flap) || flap == HOME) {
            return NONE;
        }
        if (board.isWorn(cell, flap)) {
            return REFUSED;
        }
        past.push(board);
        board.wearFlap(cell, flap);
        return board.wornCount(cell);
    }

    public int mend(int cell, int flap) {
        if (!board.hasFlap(cell, flap)) {
            return NONE;
        }
        if (!board.isWorn(cell, flap)) {
            return REFUSED;
        }
        past.push(board);
        board.mendFlap(cell, flap);
        return board.wornCount(cell);
    }

    public int limit(int n) {
        if (!board.isThere() || n < 1 || n > MOST_LIMIT) {
            return NONE;
        }
        int before = board.limit;
        if (before == n) {
            return REFUSED;
        }
        past.push(board);
        board.limit = n;
        return before;
    }

    public int exchange(int drum, int one, int other) {
        if (!board.isMovable(drum, one) || !board.isMovable(drum, other) || one == other) {
            return NONE;
        }
        past.push(board);
        board.swapSigns(drum, one, other);
        board.emptyLog();
        return 1;
    }

    public int run() {
        int answer = whyNotProgram();
        if (answer == 0) {
            past.push(board);
            answer = doProgram();
        }
        tape.size = 0;
        return answer;
    }

    /** 0 where the tape is a program, which has been read then, else the answer that is due. */
    private int whyNotProgram() {
        if (!board.isThere()) {
            return NONE;
        }
        program.readFrom(tape, board);
        return tape.isSound() ? 0 : REFUSED - tape.fault;
    }

    private int doProgram() {
        program.startDoing();
        for (int done = 0; done < MOST_DONE; done++) {
            if (!program.hasStep(program.at)) {
                return done;
            }
            doStep(program.at);
            program.goOn();
        }
        return MOST_DONE;
    }

    private void doStep(int step) {
        int one = program.oneOf(step);
        int two = program.twoOf(step);
        switch (program.kindOf(step)) {
            case WORD_ROW:
                board.wantSigns(one, tape, two, program.quotedOf(step));
                break;
            case WORD_SCROLL:
                board.scrollUp(tape, two, program.quotedOf(step));
                break;
            case WORD_HOME:
                board.wantHome(one);
                break;
            case WORD_WAIT:
                motor.turn(board, one);
                break;
            case WORD_SETTLE:
                motor.turn(board, MOST_TICKS);
                break;
            case WORD_LOSE:
                board.setLost(one, two);
                break;
            default:
                // times only leads into its body, by goOn.
                break;
        }
    }

    // ---- undone, kept

    public int undo() {
        return past.pop(board) ? past.size : NONE;
    }

    public int keep(int shelf) {
        if (!isShelf(shelf)) {
            return NONE;
        }
        Board place = shelves[shelf];
        if (place == null) {
            place = new Board();
            shelves[shelf] = place;
        }
        place.copyAll(board);
        return board.cells();
    }

    public int back(int shelf) {
        if (!isShelf(shelf)) {
            return NONE;
        }
        Board place = shelves[shelf];
        if (place == null) {
            return REFUSED;
        }
        board.copyAll(place);
        past.size = 0;
        return board.cells();
    }

    private static boolean isShelf(int shelf) {
        return shelf >= 0 && shelf < SHELF_COUNT;
    }

    private int shelvesUsed() {
        int bits = 0;
        for (int shelf = 0; shelf < SHELF_COUNT; shelf++) {
            if (shelves[shelf] != null) {
                bits |= 1 << shelf;
            }
        }
        return bits;
    }

    // ---- what there is

    public int cell(int cell, int what) {
        if (!board.hasCell(cell)) {
            return NONE;
        }
        switch (what) {
            case 0: return board.drumOf[cell];
            case 1: return board.shows[cell];
            case 2: return board.believes[cell];
            case 3: return board.wants[cell];
            case 4: return board.leftOf(cell);
            case 5: return board.loses[cell];
            case 6: return board.steps[cell];
            case 7: return board.founds[cell];
            case 8: return board.wornCount(cell);
            default: return NONE;
        }
    }

    public long worn(int cell) {
        return board.hasCell(cell) ? board.wornOf[cell] : NONE;
    }

    public int drum(int drum, int what) {
        if (!board.hasDrum(drum)) {
            return NONE;
        }
        switch (what) {
            case 0: return board.currents[drum];
            case 1: return board.flapsOn(drum);
            case 2: return board.cellsWith(drum);
            case 3: return board.unlikeSigns(drum);
            case 4: return board.mostOfOneSign(drum);
            default: return NONE;
        }
    }

    public int sign(int drum, int flap) {
        return board.signOf(drum, flap);
    }

    public int at(int row, int column, int what) {
        if (!board.hasRow(row) || column < 0 || column >= board.wide) {
            return NONE;
        }
        int cell = row * board.wide + column;
        switch (what) {
            case 0: return board.signOn(cell, board.shows[cell]);
            case 1: return board.signOn(cell, board.believes[cell]);
            case 2: return board.signOn(cell, board.wants[cell]);
            default: return NONE;
        }
    }

    public long which(int what) {
        if (!board.isThere() || what < 0 || what > 4) {
            return NONE;
        }
        if (what == 3) {
            motor.choose(board);
            return motor.chosenBits();
        }
        long bits = 0;
        for (int cell = 0; cell < board.cells(); cell++) {
            if (isSuch(cell, what)) {
                bits |= 1L << cell;
            }
        }
        return bits;
    }

    private boolean isSuch(int cell, int what) {
        switch (what) {
            case 0: return board.leftOf(cell) > 0;
            case 1: return board.shows[cell] != board.believes[cell];
            case 2: return board.showsWrong(cell);
            case 4: return board.currentOf(cell) > board.limit;
            default: return false;
        }
    }

    public int left(int what) {
        if (!board.isThere()) {
            return NONE;
        }
        switch (what) {
            case 0: return board.leftOfAll(false);
            case 1: return board.mostLeft();
            case 2: return board.leftOfAll(true);
            case 3: return leastTicks();
            default: return NONE;
        }
    }

    private int leastTicks() {
        int limit = Math.max(1, board.limit);
        int byCurrent = (board.leftOfAll(true) + limit - 1) / limit;
        return Math.max(board.mostLeft(), byCurrent);
    }

    // ---- what would be

    public int when(int what) {
        if (!board.isThere() || what < 0 || what > 5) {
            return NONE;
        }
        tryToSettle();
        switch (what) {
            case 0: return motor.ticks;
            case 1: return motor.steps;
            case 2: return motor.clatter;
            case 3: return motor.mostCurrent;
            case 4: return trial.wrongCount();
            case 5: return motor.found;
            default: return NONE;
        }
    }

    public int loudest(int what) {
        if (!board.isThere() || what < 0 || what > 1) {
            return NONE;
        }
        tryToSettle();
        if (motor.ticks == 0) {
            return REFUSED;
        }
        return what == 0 ? motor.loudestTick : motor.loudestClatter;
    }

    private void tryToSettle() {
        trial.copyAllButLog(board);
        motor.turn(trial, MOST_TICKS);
    }

    public int total(int what) {
        if (!board.isThere()) {
            return NONE;
        }
        switch (what) {
            case 0: return board.clatter;
            case 1: return board.ticks;
            case 2: return board.sumOf(board.steps);
            case 3: return board.sumOf(board.founds);
            default: return NONE;
        }
    }

    public int rests(int cell) {
        if (!board.hasCell(cell)) {
            return NONE;
        }
        trial.copyAllButLog(board);
        for (int ticks = 0; ticks <= MOST_TICKS; ticks++) {
            if (trial.leftOf(cell) == 0) {
                return ticks;
            }
            motor.turn(trial, 1);
            if (motor.ticks == 0) {
                return REFUSED;
            }
        }
        return REFUSED;
    }

    // ---- what words would cost

    public int cost(int row) {
        int why = whyNotRow(row);
        return why == 0 ? board.costOf(row, 0, tape, 0, tape.size) : why;
    }

    public int best(int row, int what) {
        if (!board.hasRow(row) || what < 0 || what > 2) {
            return NONE;
        }
        int words = 0;
        int from = 0;
        int which = 0;
        int leastCost = 0;
        int fewest = 0;
        for (int place = 0; place <= tape.size; place++) {
            if (place == tape.size || tape.byteAt(place) == SLASH) {
                int size = place - from;
                if (!isRowText(from, size)) {
                    return REFUSED;
                }
                int cost = board.costOf(row, 0, tape, from, size);
                int misses = board.missesOf(row, 0, tape, from, size);
                if (words == 0 || cost < leastCost || cost == leastCost && misses < fewest) {
                    which = words;
                    leastCost = cost;
                    fewest = misses;
                }
                words++;
                from = place + 1;
            }
        }
        return what == 0 ? which : what == 1 ? leastCost : fewest;
    }

    public int place(int row, int what) {
        if (!board.hasRow(row) || what < 0 || what > 1) {
            return NONE;
        }
        int size = tape.size;
        if (size == 0 || !isRowText(0, size)) {
            return REFUSED;
        }
        int which = NONE;
        int leastCost = 0;
        int fewest = 0;
        for (int column = 0; column + size <= board.wide; column++) {
            int cost = board.costOf(row, column, tape, 0, size);
            int misses = board.missesOf(row, column, tape, 0, size);
            if (which == NONE || misses < fewest || misses == fewest && cost < leastCost) {
                which = column;
                leastCost = cost;
                fewest = misses;
            }
        }
        return what == 0 ? which : leastCost;
    }

    /** 0 where the row is there and may want what is on the tape, else the answer that is due. */
    private int whyNotRow(int row) {
        if (!board.hasRow(row)) {
            return NONE;
        }
        return isRowText(0, tape.size) ? 0 : REFUSED;
    }

    private boolean isRowText(int from, int size) {
        if (size > board.wide) {
            return false;
        }
        for (int k = 0; k < size; k++) {
            if (!isSign(tape.byteAt(from + k))) {
                return false;
            }
        }
        return true;
    }

    private static boolean isSign(int value) {
        return value >= FIRST_SIGN && value <= LAST_SIGN && value != QUOTE;
    }

    // ---- the log, and what follows from it

    public int log(int drum, int what) {
        if (!board.hasDrum(drum)) {
            return NONE;
        }
        switch (what) {
            case 0: return board.journey(drum);
            case 1: return board.logSize(drum);
            case 2: return board.unlikeEntries(drum);
            default: return NONE;
        }
    }

    public int often(int drum, int flap, boolean to) {
        if (!board.hasDrum(drum) || flap < 0 || flap >= board.flapsOn(drum)) {
            return NONE;
        }
        return board.entriesOf(drum, flap, to);
    }

    public int usual(int drum, int what) {
        if (!board.hasDrum(drum) || what < 0 || what > 1) {
            return NONE;
        }
        int which = NONE;
        int most = 0;
        for (int flap = 0; flap < board.flapsOn(drum); flap++) {
            int entries = board.entriesOf(drum, flap, true);
            if (entries > most) {
                which = flap;
                most = entries;
            }
        }
        if (which == NONE) {
            return REFUSED;
        }
        return what == 0 ? which : most;
    }

    public int better(int drum, int what) {
        if (!board.hasDrum(drum) || what < 0 || what > 2) {
            return NONE;
        }
        int flaps = board.flapsOn(drum);
        int least = 0;
        int first = NONE;
        int second = NONE;
        for (int one = 1; one < flaps; one++) {
            for (int other = one + 1; other < flaps; other++) {
                int change = board.journeyChange(drum, one, other);
                if (change < least) {
                    least = change;
                    first = one;
                    second = other;
                }
            }
        }
        if (first == NONE) {
            return REFUSED;
        }
        return what == 0 ? board.journey(drum) + least : what == 1 ? first : second;
    }

    // ---- signs of a cell, rows, all

    public int farthest(int cell, int what) {
        if (!board.hasCell(cell) || what < 0 || what > 1) {
            return NONE;
        }
        int most = NONE;
        int which = NONE;
        for (int flap = 0; flap < board.flapsOf(cell); flap++) {
            int on = board.flapsOnTo(cell, flap);
            int sign = board.signOn(cell, flap);
            if (on > most && board.nearest(cell, sign) == flap) {
                most = on;
                which = sign;
            }
        }
        return what == 0 ? most : which;
    }

    public int lacks(int cell, int what) {
        if (!board.hasCell(cell) || what < 0 || what > 1) {
            return NONE;
        }
        return what == 0 ? board.missedOfOwn(cell) : board.signsOfOthers(board.drumOf[cell]);
    }

    public int unlike(int row, int other) {
        if (!board.hasRow(row) || !board.hasRow(other) || row == other) {
            return NONE;
        }
        int different = 0;
        for (int column = 0; column < board.wide; column++) {
            int one = board.wantedSign(row * board.wide + column);
            int two = board.wantedSign(other * board.wide + column);
            if (one != two) {
                different++;
            }
        }
        return different;
    }

    public int letter(int what, int k) {
        if (what < 0 || what > 1 || k < NONE) {
            return NONE;
        }
        int length = board.isThere() ? board.cells() + board.rows - 1 : 0;
        if (k == NONE) {
            return length;
        }
        if (k >= length) {
            return REFUSED;
        }
        int column = k % (board.wide + 1);
        if (column == board.wide) {
            return SLASH;
        }
        int cell = k / (board.wide + 1) * board.wide + column;
        return board.signOn(cell, what == 0 ? board.shows[cell] : board.wants[cell]);
    }

    public long digest() {
        long sum = 17;
        for (int cell = 0; cell < board.cells(); cell++) {
            sum = 31 * sum + board.drumOf[cell];
            sum = 31 * sum + board.shows[cell];
            sum = 31 * sum + board.believes[cell];
            sum = 31 * sum + board.wants[cell];
            sum = 31 * sum + board.loses[cell];
            sum = 31 * sum + board.wornOf[cell];
        }
        return sum;
    }

    public int count(int what) {
        switch (what) {
            case 0: return board.rows;
            case 1: return board.wide;
            case 2: return board.cells();
            case 3: return board.limit;
            case 4: return board.drums;
            case 5: return past.size;
            case 6: return tape.size;
            case 7: return shelvesUsed();
            case 8:
                motor.choose(board);
                return motor.size;
            default: return NONE;
        }
    }

    /** How many flaps on one is from another, round about. */
    private static int onFrom(int from, int to, int flaps) {
        return to >= from ? to - from : to - from + flaps;
    }

    private static int behind(int flap, int flaps) {
        return flap + 1 < flaps ? flap + 1 : HOME;
    }

    /** The bytes that came, and how far they have been read as a text. */
    private static final class Tape {
        final int[] bytes;
        int size;
        int at;
        int begun;
        int quotedFrom;
        int quotedSize;
        int fault;

        Tape() {
            bytes = new int[MOST_BYTES];
        }

        void addNumber(int number) {
            for (int shift = 24; shift >= 0; shift -= 8) {
                if (size < MOST_BYTES) {
                    bytes[size] = number >> shift & 255;
                    size++;
                }
            }
        }

        int byteAt(int place) {
            return place >= 0 && place < size ? bytes[place] : NONE;
        }

        void startReading() {
            at = 0;
            begun = 0;
            quotedFrom = 0;
            quotedSize = 0;
            fault = 0;
        }

        boolean isSound() {
            return fault == 0;
        }

        /** Only the first fault that is met counts. */
        void blame(int place, int kind) {
            if (fault == 0) {
                fault = 8 * place + kind;
            }
        }

        /** The next byte that is no blank, NONE at the end. */
        int peek() {
            while (at < size && bytes[at] == ' ') {
                at++;
            }
            return at < size ? bytes[at] : NONE;
        }

        void takeByte(int wanted) {
            if (peek() == wanted) {
                at++;
            } else {
                blame(at, CANNOT_STAND);
            }
        }

        /** Which word stands here, 0 for one that is none of ours; its place is begun. */
        int takeWord() {
            peek();
            begun = at;
            while (at < size && byteAt(at) >= 'a' && byteAt(at) <= 'z') {
                at++;
            }
            return wordRead();
        }

        void takeThisWord(int word) {
            if (takeWord() != word) {
                blame(begun, CANNOT_STAND);
            }
        }

        private int wordRead() {
            if (isRead("board")) return WORD_BOARD;
            if (isRead("limit")) return WORD_LIMIT;
            if (isRead("drum")) return WORD_DRUM;
            if (isRead("cells")) return WORD_CELLS;
            if (isRead("worn")) return WORD_WORN;
            if (isRead("row")) return WORD_ROW;
            if (isRead("lose")) return WORD_LOSE;
            if (isRead("scroll")) return WORD_SCROLL;
            if (isRead("home")) return WORD_HOME;
            if (isRead("wait")) return WORD_WAIT;
            if (isRead("settle")) return WORD_SETTLE;
            if (isRead("times")) return WORD_TIMES;
            return 0;
        }

        private boolean isRead(String word) {
            if (word.length() != at - begun) {
                return false;
            }
            for (int k = 0; k < word.length(); k++) {
                if (word.charAt(k) != bytes[begun + k]) {
                    return false;
                }
            }
            return true;
        }

        /** A number within bounds; the lower bound where there is a fault. */
        int takeNumber(int least, int most) {
            peek();
            begun = at;
            int value = 0;
            while (at < size && byteAt(at) >= '0' && byteAt(at) <= '9') {
                // Beyond a thousand all numbers are alike too great.
                value = Math.min(1000, value * 10 + byteAt(at) - '0');
                at++;
            }
            if (at == begun) {
                blame(at, CANNOT_STAND);
                return least;
            }
            if (value < least || value > most) {
                blame(begun, NOT_AS_TOLD);
                return least;
            }
            return value;
        }

        void takeQuoted(int least, int most) {
            takeByte(QUOTE);
            quotedFrom = at;
            while (at < size && isSound() && byteAt(at) != QUOTE) {
                if (!isSign(byteAt(at))) {
                    blame(at, CANNOT_STAND);
                } else if (at - quotedFrom >= most) {
                    blame(at, NOT_AS_TOLD);
                }
                at++;
            }
            quotedSize = at - quotedFrom;
            if (at >= size) {
                blame(size, CANNOT_STAND);
            } else if (quotedSize < least) {
                blame(at, NOT_AS_TOLD);
            }
            at++;
        }
    }

    /** Reads the text that tells a board. */
    private static final class BoardText {
        static void readInto(Board board, Tape text) {
            board.clear();
            text.startReading();
            readHead(board, text);
            for (int part = 0; part < MOST_BYTES && text.isSound() && text.peek() != NONE; part++) {
                text.takeByte(';');
                readPart(board, text);
            }
            if (board.drums == 0) {
                text.blame(text.size, NO_DRUM);
            }
        }

        private static void readHead(Board board, Tape text) {
            text.takeThisWord(WORD_BOARD);
            int rows = text.takeNumber(1, MOST_ROWS);
            int room = rows > 0 ? MOST_CELLS / rows : 0;
            int wide = text.takeNumber(1, Math.min(MOST_WIDE, room));
            text.takeThisWord(WORD_LIMIT);
            int limit = text.takeNumber(1, MOST_LIMIT);
            if (text.isSound()) {
                board.rows = rows;
                board.wide = wide;
                board.limit = limit;
            }
        }

        private static void readPart(Board board, Tape text) {
            int word = text.takeWord();
            int begun = text.begun;
            if (word < WORD_DRUM || word > WORD_LOSE) {
                text.blame(begun, CANNOT_STAND);
            } else if (word == WORD_DRUM ? board.drums == MOST_DRUMS : board.drums == 0) {
                text.blame(begun, OUT_OF_TURN);
            }
            if (!text.isSound()) {
                return;
            }
            switch (word) {
                case WORD_DRUM:
                    readDrum(board, text);
                    break;
                case WORD_CELLS:
                    readCells(board, text);
                    break;
                case WORD_WORN:
                    readWorn(board, text);
                    break;
                case WORD_ROW:
                    readRow(board, text);
                    break;
                default:
                    readLose(board, text);
                    break;
            }
        }

        private static void readDrum(Board board, Tape text) {
            int current = text.takeNumber(1, MOST_CURRENT);
            text.takeQuoted(2, MOST_FLAPS);
            if (text.isSound()) {
                board.addDrum(current, text, text.quotedFrom, text.quotedSize);
            }
        }

        private static void readCells(Board board, Tape text) {
            int last = board.cells() - 1;
            int from = text.takeNumber(0, last);
            int to = text.takeNumber(from, last);
            int drum = text.takeNumber(0, board.drums - 1);
            for (int cell = from; cell <= to && text.isSound(); cell++) {
                board.makeCell(cell, drum);
            }
        }

        private static void readWorn(Board board, Tape text) {
            int cell = text.takeNumber(0, board.cells() - 1);
            int flap = text.takeNumber(1, board.flapsOf(cell) - 1);
            if (text.isSound() && board.isWorn(cell, flap)) {
                text.blame(text.begun, NOT_AS_TOLD);
            }
            if (text.isSound()) {
                board.wearFlap(cell, flap);
            }
        }

        private static void readRow(Board board, Tape text) {
            int row = text.takeNumber(0, board.rows - 1);
            text.takeQuoted(0, board.wide);
            if (text.isSound()) {
                board.showSigns(row, text, text.quotedFrom, text.quotedSize);
            }
        }

        private static void readLose(Board board, Tape text) {
            int cell = text.takeNumber(0, board.cells() - 1);
            int lost = text.takeNumber(0, MOST_LOST);
            if (text.isSound()) {
                board.setLost(cell, lost);
            }
        }
    }

    /** A program's steps in the order of its text; the body of times stands behind it, up to its end. */
    private static final class Program {
        // The shortest step, with what stands between, has six bytes.
        static final int ROOM = 80;
        final int[] kinds;
        final int[] ones;
        final int[] twos;
        final int[] quoted;
        final int[] ends;
        // The times whose bodies are open, as they are read or done, and how often each is still to be done again.
        final int[] open;
        final int[] again;
        int depth;
        int size;
        int at;

        Program() {
            kinds = new int[ROOM];
            ones = new int[ROOM];
            twos = new int[ROOM];
            quoted = new int[ROOM];
            ends = new int[ROOM];
            open = new int[MOST_OPEN];
            again = new int[MOST_OPEN];
        }

        boolean hasStep(int step) {
            return step >= 0 && step < size;
        }

        int kindOf(int step) {
            return hasStep(step) ? kinds[step] : 0;
        }

        int oneOf(int step) {
            return hasStep(step) ? ones[step] : 0;
        }

        int twoOf(int step) {
            return hasStep(step) ? twos[step] : 0;
        }

        int quotedOf(int step) {
            return hasStep(step) ? quoted[step] : 0;
        }

        int endOf(int step) {
            return hasStep(step) ? ends[step] : size;
        }

        void startDoing() {
            at = 0;
            depth = 0;
        }

        /** To the step that is done behind this one: into a body, or on, or back to where an open body begins. */
        void goOn() {
            if (kindOf(at) == WORD_TIMES && oneOf(at) > 0 && depth < MOST_OPEN) {
                open[depth] = at;
                again[depth] = oneOf(at) - 1;
                depth++;
                at++;
                return;
            }
            at = endOf(at);
            for (int k = 0; k < MOST_OPEN && depth > 0 && at == endOf(open[depth - 1]); k++) {
                if (again[depth - 1] > 0) {
                    again[depth - 1]--;
                    at = open[depth - 1] + 1;
                } else {
                    depth--;
                }
            }
        }

        void readFrom(Tape text, Board board) {
            size = 0;
            depth = 0;
            text.startReading();
            boolean more = true;
            for (int k = 0; k < ROOM && more; k++) {
                int word = text.takeWord();
                readStep(word, text, board);
                more = text.isSound() && (word == WORD_TIMES || goesOn(text));
            }
        }

        private void readStep(int word, Tape text, Board board) {
            int one = 0;
            int two = 0;
            text.quotedSize = 0;
            switch (word) {
                case WORD_ROW:
                    one = text.takeNumber(0, board.rows - 1);
                    text.takeQuoted(0, board.wide);
                    two = text.quotedFrom;
                    break;
                case WORD_SCROLL:
                    text.takeQuoted(0, board.wide);
                    two = text.quotedFrom;
                    break;
                case WORD_HOME:
                    one = text.takeNumber(0, board.rows - 1);
                    break;
                case WORD_WAIT:
                    one = text.takeNumber(1, MOST_WAIT);
                    break;
                case WORD_SETTLE:
                    break;
                case WORD_LOSE:
                    one = text.takeNumber(0, board.cells() - 1);
                    two = text.takeNumber(0, MOST_LOST);
                    break;
                case WORD_TIMES:
                    one = text.takeNumber(0, MOST_TIMES);
                    openTimes(text);
                    break;
                default:
                    text.blame(text.begun, CANNOT_STAND);
                    break;
            }
            if (text.isSound()) {
                addStep(word, one, two, text.quotedSize);
            }
        }

        private void openTimes(Tape text) {
            if (text.peek() == '(' && depth >= MOST_OPEN) {
                text.blame(text.at, OUT_OF_TURN);
            }
            text.takeByte('(');
            if (text.isSound()) {
                open[depth] = size;
                depth++;
            }
        }

        private void addStep(int kind, int one, int two, int signs) {
            if (size < ROOM) {
                kinds[size] = kind;
                ones[size] = one;
                twos[size] = two;
                quoted[size] = signs;
                ends[size] = size + 1;
                size++;
            }
        }

        /** Whether another step follows; bodies that end here are closed. */
        private boolean goesOn(Tape text) {
            for (int k = 0; k <= MOST_OPEN; k++) {
                int next = text.peek();
                if (next == ';') {
                    text.at++;
                    return true;
                }
                if (next != ')' || depth <= 0) {
                    if (next != NONE || depth > 0) {
                        text.blame(text.at, CANNOT_STAND);
                    }
                    return false;
                }
                text.at++;
                depth--;
                closeTimes(open[depth]);
            }
            return false;
        }

        private void closeTimes(int step) {
            if (hasStep(step)) {
                ends[step] = size;
            }
        }
    }

    /** Lets cells turn, tick by tick, and counts what comes of it. */
    private static final class Motor {
        final int[] firstByLeft;
        final int[] nextCell;
        final int[] chosen;
        int size;
        int current;
        int ticks;
        int steps;
        int clatter;
        int mostCurrent;
        int loudestTick;
        int loudestClatter;
        int found;

        Motor() {
            firstByLeft = new int[MOST_FLAPS];
            nextCell = new int[MOST_CELLS];
            chosen = new int[MOST_CELLS];
        }

        /** So many ticks, or till none turns: behind that nothing changes any more. */
        void turn(Board board, int most) {
            startCounting();
            for (int k = 0; k < most; k++) {
                choose(board);
                if (size == 0) {
                    return;
                }
                for (int turned = 0; turned < size; turned++) {
                    found += board.stepOn(chosen[turned]);
                }
                board.clatter += size * size;
                board.ticks++;
                countTick(size * size);
            }
        }

        private void startCounting() {
            ticks = 0;
            steps = 0;
            clatter = 0;
            mostCurrent = 0;
            loudestTick = 0;
            loudestClatter = 0;
            found = 0;
        }

        private void countTick(int noise) {
            if (noise > loudestClatter) {
                loudestClatter = noise;
                loudestTick = ticks;
            }
            mostCurrent = Math.max(mostCurrent, current);
            clatter += noise;
            steps += size;
            ticks++;
        }

        /** Who turns in the next tick. */
        void choose(Board board) {
            size = 0;
            current = 0;
            int most = sortByLeft(board);
            // A current is 1 at least: at the limit no other one can turn.
            for (int left = most; left > 0 && current < board.limit; left--) {
                int cell = firstByLeft[left];
                for (int k = 0; k < MOST_CELLS && cell != NONE; k++) {
                    int together = current + board.currentOf(cell);
                    if (together <= board.limit && size < MOST_CELLS) {
                        current = together;
                        chosen[size] = cell;
                        size++;
                    }
                    cell = nextCell[cell];
                }
            }
        }

        /** Chains of cells with as much left, the lesser number first; answers the most left. */
        private int sortByLeft(Board board) {
            Arrays.fill(firstByLeft, NONE);
            int most = 0;
            for (int cell = board.cells() - 1; cell >= 0; cell--) {
                int left = board.leftOf(cell);
                if (left > 0 && left < MOST_FLAPS) {
                    nextCell[cell] = firstByLeft[left];
                    firstByLeft[left] = cell;
                    most = Math.max(most, left);
                }
            }
            return most;
        }

        long chosenBits() {
            long bits = 0;
            for (int k = 0; k < size; k++) {
                bits |= 1L << chosen[k];
            }
            return bits;
        }
    }

    /** The boards as they were ahead of the last acts, in a ring. */
    private static final class Past {
        final Board[] boards;
        int size;
        int next;

        Past() {
            boards = new Board[MOST_ACTS];
        }

        void push(Board board) {
            Board place = boards[next];
            if (place == null) {
                place = new Board();
                boards[next] = place;
            }
            place.copyAll(board);
            next = (next + 1) % MOST_ACTS;
            size = Math.min(size + 1, MOST_ACTS);
        }

        boolean pop(Board board) {
            if (size == 0) {
                return false;
            }
            size--;
            next = (next + MOST_ACTS - 1) % MOST_ACTS;
            Board place = boards[next];
            if (place != null) {
                board.copyAll(place);
            }
            return true;
        }
    }

    /** All that a shelf keeps: drums, cells, the limit, logs, what was done so far. No rows: no board. */
    private static final class Board {
        int rows;
        int wide;
        int limit;
        int drums;
        int clatter;
        int ticks;
        final int[] currents;
        final int[] sizes;
        final int[] signs;
        final int[] drumOf;
        final int[] shows;
        final int[] believes;
        final int[] wants;
        final int[] loses;
        final int[] steps;
        final int[] founds;
        final long[] wornOf;
        // How often a drum's cells went from a flap to another: drum behind drum, flap by flap.
        int[] entries;

        Board() {
            currents = new int[MOST_DRUMS];
            sizes = new int[MOST_DRUMS];
            signs = new int[MOST_DRUMS * MOST_FLAPS];
            drumOf = new int[MOST_CELLS];
            shows = new int[MOST_CELLS];
            believes = new int[MOST_CELLS];
            wants = new int[MOST_CELLS];
            loses = new int[MOST_CELLS];
            steps = new int[MOST_CELLS];
            founds = new int[MOST_CELLS];
            wornOf = new long[MOST_CELLS];
            entries = new int[0];
        }

        void clear() {
            rows = 0;
            wide = 0;
            limit = 0;
            drums = 0;
            clatter = 0;
            ticks = 0;
            for (int cell = 0; cell < MOST_CELLS; cell++) {
                makeCell(cell, 0);
            }
        }

        void setLost(int cell, int lost) {
            if (hasCell(cell)) {
                loses[cell] = lost;
            }
        }

        void makeCell(int cell, int drum) {
            drumOf[cell] = drum;
            shows[cell] = HOME;
            believes[cell] = HOME;
            wants[cell] = HOME;
            loses[cell] = 0;
            steps[cell] = 0;
            founds[cell] = 0;
            wornOf[cell] = 0;
        }

        void addDrum(int current, Tape text, int from, int flaps) {
            if (drums >= MOST_DRUMS || flaps > MOST_FLAPS) {
                return;
            }
            currents[drums] = current;
            sizes[drums] = flaps;
            for (int flap = 0; flap < flaps; flap++) {
                signs[drums * MOST_FLAPS + flap] = text.byteAt(from + flap);
            }
            drums++;
        }

        void copyAll(Board other) {
            copyAllButLog(other);
            int size = other.entryCount();
            if (entries.length < size) {
                entries = new int[size];
            }
            System.arraycopy(other.entries, 0, entries, 0, Math.min(size, other.entries.length));
        }

        void copyAllButLog(Board other) {
            rows = other.rows;
            wide = other.wide;
            limit = other.limit;
            drums = other.drums;
            clatter = other.clatter;
            ticks = other.ticks;
            System.arraycopy(other.currents, 0, currents, 0, MOST_DRUMS);
            System.arraycopy(other.sizes, 0, sizes, 0, MOST_DRUMS);
            System.arraycopy(other.signs, 0, signs, 0, MOST_DRUMS * MOST_FLAPS);
            int cells = other.cells();
            System.arraycopy(other.drumOf, 0, drumOf, 0, cells);
            System.arraycopy(other.shows, 0, shows, 0, cells);
            System.arraycopy(other.believes, 0, believes, 0, cells);
            System.arraycopy(other.wants, 0, wants, 0, cells);
            System.arraycopy(other.loses, 0, loses, 0, cells);
            System.arraycopy(other.steps, 0, steps, 0, cells);
            System.arraycopy(other.founds, 0, founds, 0, cells);
            System.arraycopy(other.wornOf, 0, wornOf, 0, cells);
        }

        boolean isThere() {
            return rows > 0;
        }

        int cells() {
            return rows * wide;
        }

        boolean hasCell(int cell) {
            return cell >= 0 && cell < cells();
        }

        boolean hasRow(int row) {
            return row >= 0 && row < rows;
        }

        boolean hasDrum(int drum) {
            return drum >= 0 && drum < drums;
        }

        boolean hasFlap(int cell, int flap) {
            return hasCell(cell) && flap >= 0 && flap < flapsOf(cell);
        }

        boolean isMovable(int drum, int flap) {
            return flap > HOME && flap < flapsOn(drum);
        }

        int flapsOn(int drum) {
            return drum >= 0 && drum < drums ? sizes[drum] : 0;
        }

        int flapsOf(int cell) {
            int drum = drumOf[cell];
            return drum >= 0 && drum < drums ? sizes[drum] : 0;
        }

        int currentOf(int cell) {
            int drum = drumOf[cell];
            return drum >= 0 && drum < drums ? currents[drum] : 0;
        }

        int signOf(int drum, int flap) {
            if (drum < 0 || drum >= drums || flap < 0 || flap >= sizes[drum]) {
                return NONE;
            }
            return signs[drum * MOST_FLAPS + flap];
        }

        int signOn(int cell, int flap) {
            return signOf(drumOf[cell], flap);
        }

        int wantedSign(int cell) {
            return signOn(cell, wants[cell]);
        }

        boolean showsWrong(int cell) {
            return signOn(cell, shows[cell]) != wantedSign(cell);
        }

        int wrongCount() {
            int wrong = 0;
            for (int cell = 0; cell < cells(); cell++) {
                if (showsWrong(cell)) {
                    wrong++;
                }
            }
            return wrong;
        }

        int sumOf(int[] numbers) {
            int sum = 0;
            for (int cell = 0; cell < cells() && cell < numbers.length; cell++) {
                sum += numbers[cell];
            }
            return sum;
        }

        // -- drums

        void swapSigns(int drum, int one, int other) {
            if (!isMovable(drum, one) || !isMovable(drum, other)) {
                return;
            }
            int start = drum * MOST_FLAPS;
            int sign = signs[start + one];
            signs[start + one] = signs[start + other];
            signs[start + other] = sign;
        }

        int cellsWith(int drum) {
            int having = 0;
            for (int cell = 0; cell < cells(); cell++) {
                if (drumOf[cell] == drum) {
                    having++;
                }
            }
            return having;
        }

        /** How many flaps of a drum from one on have a sign. */
        int flapsWith(int drum, int sign, int from) {
            int start = drum * MOST_FLAPS;
            int flaps = flapsOn(drum);
            int having = 0;
            for (int flap = from; flap < flaps; flap++) {
                if (signs[start + flap] == sign) {
                    having++;
                }
            }
            return having;
        }

        boolean drumHas(int drum, int sign) {
            return flapsWith(drum, sign, 0) > 0;
        }

        boolean someDrumHas(int sign) {
            for (int drum = 0; drum < drums; drum++) {
                if (drumHas(drum, sign)) {
                    return true;
                }
            }
            return false;
        }

        int missedOfOwn(int cell) {
            int drum = drumOf[cell];
            int missed = 0;
            for (int flap = 0; flap < flapsOn(drum); flap++) {
                if (isLastOfSign(drum, flap) && nearest(cell, signOf(drum, flap)) == NONE) {
                    missed++;
                }
            }
            return missed;
        }

        int signsOfOthers(int own) {
            int signsThere = 0;
            for (int sign = FIRST_SIGN; sign <= LAST_SIGN; sign++) {
                if (someDrumHas(sign) && !drumHas(own, sign)) {
                    signsThere++;
                }
            }
            return signsThere;
        }

        boolean isLastOfSign(int drum, int flap) {
            return flapsWith(drum, signOf(drum, flap), flap + 1) == 0;
        }

        int unlikeSigns(int drum) {
            int unlike = 0;
            for (int flap = 0; flap < flapsOn(drum); flap++) {
                if (isLastOfSign(drum, flap)) {
                    unlike++;
                }
            }
            return unlike;
        }

        int mostOfOneSign(int drum) {
            int most = 0;
            for (int flap = 0; flap < flapsOn(drum); flap++) {
                most = Math.max(most, flapsWith(drum, signOf(drum, flap), flap));
            }
            return most;
        }

        // -- worn flaps

        boolean isWorn(int cell, int flap) {
            return (wornOf[cell] >> flap & 1L) != 0L;
        }

        int wornCount(int cell) {
            return Long.bitCount(wornOf[cell]);
        }

        void wearFlap(int cell, int flap) {
            wornOf[cell] |= 1L << flap;
            if (wants[cell] == flap) {
                wants[cell] = HOME;
            }
        }

        void mendFlap(int cell, int flap) {
            wornOf[cell] &= ~(1L << flap);
        }

        // -- wanting

        int flapsOnTo(int cell, int flap) {
            return onFrom(believes[cell], flap, flapsOf(cell));
        }

        int leftOf(int cell) {
            int on = wants[cell] - believes[cell];
            int drum = drumOf[cell];
            return on < 0 && drum >= 0 && drum < drums ? on + sizes[drum] : on;
        }

        /** The flap that a cell would want for a sign, NONE where it misses. */
        int nearest(int cell, int sign) {
            int drum = drumOf[cell];
            int flaps = drum >= 0 && drum < drums ? sizes[drum] : 0;
            int start = drum * MOST_FLAPS;
            long sound = ~wornOf[cell];
            int flap = believes[cell];
            for (int k = 0; k < flaps; k++) {
                if (signs[start + flap] == sign && (sound >> flap & 1L) != 0L) {
                    return flap;
                }
                flap = flap + 1 < flaps ? flap + 1 : HOME;
            }
            return NONE;
        }

        /** The flap that a cell of a row would want, were signs to stand some columns on (negative: ahead of them). */
        private int flapFor(int cell, int place, Tape text, int from, int size) {
            return place >= 0 && place < size ? nearest(cell, text.byteAt(from + place)) : HOME;
        }

        int costOf(int row, int column, Tape text, int from, int size) {
            int sum = 0;
            for (int k = 0; k < wide; k++) {
                int cell = row * wide + k;
                int flap = flapFor(cell, k - column, text, from, size);
                sum += flap == NONE ? 0 : flapsOnTo(cell, flap);
            }
            return sum;
        }

        int missesOf(int row, int column, Tape text, int from, int size) {
            int misses = 0;
            for (int k = 0; k < wide; k++) {
                if (flapFor(row * wide + k, k - column, text, from, size) == NONE) {
                    misses++;
                }
            }
            return misses;
        }

        /** A row wants signs, as by row() and scroll(): answers how many miss. */
        int wantSigns(int row, Tape text, int from, int size) {
            int misses = 0;
            for (int k = 0; k < wide; k++) {
                int cell = row * wide + k;
                misses += wantFlap(cell, flapFor(cell, k, text, from, size));
            }
            return misses;
        }

        /** From the top on, so that each row still sees what the one below it wanted ahead. */
        int scrollUp(Tape text, int from, int size) {
            int misses = 0;
            for (int cell = 0; cell < cells() - wide; cell++) {
                misses += wantFlap(cell, nearest(cell, wantedSign(cell + wide)));
            }
            return misses + wantSigns(rows - 1, text, from, size);
        }

        private int wantFlap(int cell, int flap) {
            if (flap == NONE) {
                return 1;
            }
            wants[cell] = flap;
            int from = believes[cell];
            int place = entryStart(drumOf[cell]) + from * flapsOf(cell) + flap;
            if (flap != from && place >= 0 && place < entries.length) {
                entries[place]++;
            }
            return 0;
        }

        void wantHome(int row) {
            for (int k = 0; k < wide; k++) {
                wants[row * wide + k] = HOME;
            }
        }

        /** A row as a board's text tells it: shown at once, and not in the log. */
        void showSigns(int row, Tape text, int from, int size) {
            for (int k = 0; k < wide; k++) {
                int cell = row * wide + k;
                int flap = flapFor(cell, k, text, from, size);
                if (flap != NONE) {
                    wants[cell] = flap;
                }
                shows[cell] = wants[cell];
                believes[cell] = wants[cell];
            }
        }

        // -- turning

        /** One step: answers how many steps are found by it. */
        int stepOn(int cell) {
            int flaps = flapsOf(cell);
            int believed = behind(believes[cell], flaps);
            int found = 0;
            if (loses[cell] > 0) {
                loses[cell]--;
            } else {
                shows[cell] = behind(shows[cell], flaps);
                if (shows[cell] == HOME) {
                    found = believed;
                    believed = HOME;
                }
            }
            believes[cell] = believed;
            steps[cell]++;
            founds[cell] += found;
            return found;
        }

        int leftOfAll(boolean timesCurrent) {
            int sum = 0;
            for (int cell = 0; cell < cells(); cell++) {
                sum += leftOf(cell) * (timesCurrent ? currentOf(cell) : 1);
            }
            return sum;
        }

        int mostLeft() {
            int most = 0;
            for (int cell = 0; cell < cells(); cell++) {
                most = Math.max(most, leftOf(cell));
            }
            return most;
        }

        // -- the log

        void emptyLog() {
            int size = entryCount();
            if (entries.length < size) {
                entries = new int[size];
            } else {
                Arrays.fill(entries, 0);
            }
        }

        /** Where a drum's entries begin; of the drum behind the last one, how many numbers there are. */
        private int entryStart(int drum) {
            int start = 0;
            for (int k = 0; k < drum && k < drums; k++) {
                start += sizes[k] * sizes[k];
            }
            return start;
        }

        int entryCount() {
            return entryStart(drums);
        }

        private int entryAt(int start, int flaps, int from, int to) {
            int place = start + from * flaps + to;
            return place >= 0 && place < entries.length ? entries[place] : 0;
        }

        int journey(int drum) {
            int start = entryStart(drum);
            int flaps = flapsOn(drum);
            int sum = 0;
            for (int from = 0; from < flaps; from++) {
                for (int to = 0; to < flaps; to++) {
                    sum += entryAt(start, flaps, from, to) * onFrom(from, to, flaps);
                }
            }
            return sum;
        }

        int logSize(int drum) {
            int sum = 0;
            for (int flap = 0; flap < flapsOn(drum); flap++) {
                sum += entriesOf(drum, flap, true);
            }
            return sum;
        }

        int unlikeEntries(int drum) {
            int start = entryStart(drum);
            int flaps = flapsOn(drum);
            int unlike = 0;
            for (int from = 0; from < flaps; from++) {
                for (int to = 0; to < flaps; to++) {
                    if (entryAt(start, flaps, from, to) > 0) {
                        unlike++;
                    }
                }
            }
            return unlike;
        }

        int entriesOf(int drum, int flap, boolean to) {
            int start = entryStart(drum);
            int flaps = flapsOn(drum);
            int sum = 0;
            for (int other = 0; other < flaps; other++) {
                sum += to ? entryAt(start, flaps, other, flap) : entryAt(start, flaps, flap, other);
            }
            return sum;
        }

        /** How much longer the journey would be with two flaps exchanged: only entries with one of them change. */
        int journeyChange(int drum, int one, int other) {
            int start = entryStart(drum);
            int flaps = flapsOn(drum);
            int between = entryAt(start, flaps, one, other) - entryAt(start, flaps, other, one);
            int change = between * (onFrom(other, one, flaps) - onFrom(one, other, flaps));
            for (int flap = 0; flap < flaps; flap++) {
                if (flap != one && flap != other) {
                    int from = entryAt(start, flaps, one, flap) - entryAt(start, flaps, other, flap);
                    int to = entryAt(start, flaps, flap, one) - entryAt(start, flaps, flap, other);
                    change += from * (onFrom(other, flap, flaps) - onFrom(one, flap, flaps));
                    change += to * (onFrom(flap, other, flaps) - onFrom(flap, one, flaps));
                }
            }
            return change;
        }
    }
}
