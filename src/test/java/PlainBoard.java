import java.util.ArrayDeque;
import java.util.ArrayList;
import java.util.Arrays;
import java.util.Comparator;
import java.util.Deque;
import java.util.HashSet;
import java.util.List;
import java.util.Set;
import java.util.TreeSet;

/** The document's words once more, written as plainly as can be and without a thought of speed: random runs are held against it. */
final class PlainBoard {
    static final class Fault extends RuntimeException {
        final int number;

        Fault(int place, int kind) {
            super(null, null, false, false);
            number = 8 * place + kind;
        }
    }

    static final class Drum {
        int current;
        List<Integer> signs = new ArrayList<>();
        List<List<Integer>> log = new ArrayList<>();

        Drum copy() {
            Drum d = new Drum();
            d.current = current;
            d.signs = new ArrayList<>(signs);
            d.log = new ArrayList<>(log);
            return d;
        }

        int on(int from, int to) {
            return Math.floorMod(to - from, signs.size());
        }

        int journey(int one, int other) {
            int sum = 0;
            for (List<Integer> e : log) {
                sum += on(moved(e.get(0), one, other), moved(e.get(1), one, other));
            }
            return sum;
        }

        private static int moved(int flap, int one, int other) {
            return flap == one ? other : flap == other ? one : flap;
        }
    }

    static final class Cell {
        int drum, shows, believes, wants, loses, steps, found;
        TreeSet<Integer> worn = new TreeSet<>();

        Cell copy() {
            Cell c = new Cell();
            c.drum = drum;
            c.shows = shows;
            c.believes = believes;
            c.wants = wants;
            c.loses = loses;
            c.steps = steps;
            c.found = found;
            c.worn = new TreeSet<>(worn);
            return c;
        }
    }

    static final class State {
        int rows, wide, limit, clatter, ticks, steps, found;
        List<Drum> drums = new ArrayList<>();
        List<Cell> cells = new ArrayList<>();

        State copy() {
            State s = new State();
            s.rows = rows;
            s.wide = wide;
            s.limit = limit;
            s.clatter = clatter;
            s.ticks = ticks;
            s.steps = steps;
            s.found = found;
            for (Drum d : drums) s.drums.add(d.copy());
            for (Cell c : cells) s.cells.add(c.copy());
            return s;
        }

        Drum drumOf(Cell c) {
            return drums.get(c.drum);
        }

        int left(Cell c) {
            return drumOf(c).on(c.believes, c.wants);
        }

        int sign(Cell c, int flap) {
            return drumOf(c).signs.get(flap);
        }

        /** -1 where it misses. */
        int flapFor(Cell c, int sign) {
            int best = -1;
            Drum d = drumOf(c);
            for (int f = 0; f < d.signs.size(); f++) {
                if (d.signs.get(f) == sign && !c.worn.contains(f)
                        && (best < 0 || d.on(c.believes, f) < d.on(c.believes, best))) best = f;
            }
            return best;
        }

        boolean want(Cell c, int flap) {
            if (flap < 0) return false;
            c.wants = flap;
            if (flap != c.believes) drumOf(c).log.add(List.of(c.believes, flap));
            return true;
        }

        int wantRow(int row, int[] signs) {
            int misses = 0;
            for (int k = 0; k < wide; k++) {
                Cell c = cells.get(row * wide + k);
                if (!want(c, k < signs.length ? flapFor(c, signs[k]) : 0)) misses++;
            }
            return misses;
        }

        int scroll(int[] signs) {
            int misses = 0;
            int[] wanted = new int[cells.size()];
            for (int i = 0; i < wanted.length; i++) wanted[i] = sign(cells.get(i), cells.get(i).wants);
            for (int r = 0; r + 1 < rows; r++) {
                misses += wantRow(r, Arrays.copyOfRange(wanted, (r + 1) * wide, (r + 2) * wide));
            }
            return misses + wantRow(rows - 1, signs);
        }

        void step(Cell c) {
            int n = drumOf(c).signs.size();
            c.steps++;
            steps++;
            c.believes = (c.believes + 1) % n;
            if (c.loses > 0) {
                c.loses--;
                return;
            }
            c.shows = (c.shows + 1) % n;
            if (c.shows == 0 && c.believes != 0) {
                c.found += c.believes;
                found += c.believes;
                c.believes = 0;
            }
        }

        List<Integer> turning() {
            List<Integer> order = new ArrayList<>();
            for (int i = 0; i < cells.size(); i++) if (left(cells.get(i)) > 0) order.add(i);
            order.sort(Comparator.<Integer>comparingInt(i -> -left(cells.get(i))).thenComparingInt(i -> i));
            List<Integer> turn = new ArrayList<>();
            int current = 0;
            for (int i : order) {
                int own = drumOf(cells.get(i)).current;
                if (current + own <= limit) {
                    current += own;
                    turn.add(i);
                }
            }
            return turn;
        }

        List<Integer> tick() {
            List<Integer> turn = turning();
            for (int i : turn) step(cells.get(i));
            if (!turn.isEmpty()) ticks++;
            clatter += turn.size() * turn.size();
            return turn;
        }

        void clearLogs() {
            for (Drum d : drums) d.log.clear();
        }

        void wear(Cell c, int flap) {
            c.worn.add(flap);
            if (c.wants == flap) c.wants = 0;
        }
    }

    /** What is read of a text. */
    static final class Text {
        final int[] b;
        int at;
        int begun;

        Text(int[] bytes) {
            b = bytes;
        }

        void blanks() {
            while (at < b.length && b[at] == 32) at++;
        }

        boolean ended() {
            blanks();
            return at == b.length;
        }

        boolean comes(char c) {
            blanks();
            if (at < b.length && b[at] == c) {
                at++;
                return true;
            }
            return false;
        }

        void must(char c) {
            if (!comes(c)) throw new Fault(at, 1);
        }

        String word() {
            blanks();
            begun = at;
            StringBuilder w = new StringBuilder();
            while (at < b.length && b[at] >= 'a' && b[at] <= 'z') w.append((char) b[at++]);
            return w.toString();
        }

        void mustWord(String s) {
            if (!word().equals(s)) throw new Fault(begun, 1);
        }

        int number(int least, int most) {
            blanks();
            begun = at;
            java.math.BigInteger v = java.math.BigInteger.ZERO;
            while (at < b.length && b[at] >= '0' && b[at] <= '9') {
                v = v.multiply(java.math.BigInteger.TEN).add(java.math.BigInteger.valueOf(b[at++] - '0'));
            }
            if (at == begun) throw new Fault(at, 1);
            if (v.bitLength() > 30 || v.intValue() < least || v.intValue() > most) throw new Fault(begun, 2);
            return v.intValue();
        }

        int[] quoted(int least, int most) {
            must('\'');
            int from = at;
            for (;; at++) {
                if (at == b.length) throw new Fault(at, 1);
                if (b[at] == 39) break;
                if (b[at] < 32 || b[at] > 126) throw new Fault(at, 1);
                if (at - from == most) throw new Fault(at, 2);
            }
            if (at - from < least) throw new Fault(at, 2);
            return Arrays.copyOfRange(b, from, at++);
        }
    }

    State s = new State();
    List<Integer> tape = new ArrayList<>();
    Deque<State> past = new ArrayDeque<>();
    State[] shelves = new State[2];

    private int[] bytes() {
        return tape.stream().mapToInt(i -> i).toArray();
    }

    private boolean none() {
        return s.rows == 0;
    }

    private boolean hasCell(int c) {
        return c >= 0 && c < s.cells.size();
    }

    private boolean hasRow(int r) {
        return r >= 0 && r < s.rows;
    }

    private boolean hasDrum(int d) {
        return d >= 0 && d < s.drums.size();
    }

    private void act() {
        past.push(s.copy());
        if (past.size() > 10) past.removeLast();
    }

    int feed(int a, int b, int c, int d, int e) {
        if (tape.size() > 380) return -1;
        for (int v : new int[] {a, b, c, d, e}) {
            tape.add(v >>> 24);
            tape.add(v >>> 16 & 255);
            tape.add(v >>> 8 & 255);
            tape.add(v & 255);
        }
        return tape.size();
    }

    int end(int n) {
        if (n < 0 || n > tape.size()) return -1;
        while (tape.size() > n) tape.remove(tape.size() - 1);
        return n;
    }

    int tell() {
        Text t = new Text(bytes());
        tape.clear();
        try {
            s = readBoard(t);
        } catch (Fault f) {
            return -2 - f.number;
        }
        past.clear();
        return s.drums.size();
    }

    private static State readBoard(Text t) {
        State n = new State();
        t.mustWord("board");
        n.rows = t.number(1, 6);
        n.wide = t.number(1, 10);
        if (n.rows * n.wide > 40) throw new Fault(t.begun, 2);
        t.mustWord("limit");
        n.limit = t.number(1, 99);
        for (int i = 0; i < n.rows * n.wide; i++) n.cells.add(new Cell());
        while (!t.ended()) {
            t.must(';');
            String w = t.word();
            if (!Set.of("drum", "cells", "worn", "row", "lose").contains(w)) throw new Fault(t.begun, 1);
            if (w.equals("drum") ? n.drums.size() == 4 : n.drums.isEmpty()) throw new Fault(t.begun, 3);
            readPart(w, t, n);
        }
        if (n.drums.isEmpty()) throw new Fault(t.b.length, 4);
        return n;
    }

    private static void readPart(String w, Text t, State n) {
        int last = n.cells.size() - 1;
        if (w.equals("drum")) {
            Drum d = new Drum();
            d.current = t.number(1, 9);
            for (int b : t.quoted(2, 40)) d.signs.add(b);
            n.drums.add(d);
        } else if (w.equals("cells")) {
            int from = t.number(0, last);
            int to = t.number(from, last);
            int drum = t.number(0, n.drums.size() - 1);
            for (int i = from; i <= to; i++) {
                n.cells.set(i, new Cell());
                n.cells.get(i).drum = drum;
            }
        } else if (w.equals("worn")) {
            Cell c = n.cells.get(t.number(0, last));
            int flap = t.number(1, n.drumOf(c).signs.size() - 1);
            if (c.worn.contains(flap)) throw new Fault(t.begun, 2);
            n.wear(c, flap);
        } else if (w.equals("row")) {
            int row = t.number(0, n.rows - 1);
            n.wantRow(row, t.quoted(0, n.wide));
            n.clearLogs();
            for (Cell c : n.cells.subList(row * n.wide, (row + 1) * n.wide)) {
                c.shows = c.wants;
                c.believes = c.wants;
            }
        } else {
            Cell c = n.cells.get(t.number(0, last));
            c.loses = t.number(0, 9);
        }
    }

    /** null where it is not as row(). */
    private int[] signs(int[] b) {
        if (b.length > s.wide) return null;
        for (int v : b) if (v < 32 || v > 126 || v == 39) return null;
        return b;
    }

    int row(int row) {
        int[] b = bytes();
        tape.clear();
        if (!hasRow(row)) return -1;
        if (signs(b) == null) return -2;
        act();
        return s.wantRow(row, b);
    }

    int scroll() {
        int[] b = bytes();
        tape.clear();
        if (none()) return -1;
        if (signs(b) == null) return -2;
        act();
        return s.scroll(b);
    }

    int tick(int n) {
        if (none() || n < 1 || n > 99) return -1;
        act();
        int steps = 0;
        for (int i = 0; i < n; i++) steps += s.tick().size();
        return steps;
    }

    int settle() {
        if (none()) return -1;
        if (s.turning().isEmpty()) return -2;
        act();
        int ticks = 0;
        while (!s.tick().isEmpty()) ticks++;
        return ticks;
    }

    int lose(int cell, int n) {
        if (!hasCell(cell) || n < 0 || n > 9) return -1;
        int was = s.cells.get(cell).loses;
        if (was == n) return -2;
        act();
        s.cells.get(cell).loses = n;
        return was;
    }

    private boolean hasFlap(int cell, int flap) {
        return hasCell(cell) && flap >= 0 && flap < s.drumOf(s.cells.get(cell)).signs.size();
    }

    int wear(int cell, int flap) {
        if (!hasFlap(cell, flap) || flap == 0) return -1;
        if (s.cells.get(cell).worn.contains(flap)) return -2;
        act();
        s.wear(s.cells.get(cell), flap);
        return s.cells.get(cell).worn.size();
    }

    int mend(int cell, int flap) {
        if (!hasFlap(cell, flap)) return -1;
        if (!s.cells.get(cell).worn.contains(flap)) return -2;
        act();
        s.cells.get(cell).worn.remove(flap);
        return s.cells.get(cell).worn.size();
    }

    int limit(int n) {
        if (none() || n < 1 || n > 99) return -1;
        int was = s.limit;
        if (was == n) return -2;
        act();
        s.limit = n;
        return was;
    }

    int exchange(int drum, int one, int other) {
        if (!hasDrum(drum)) return -1;
        int n = s.drums.get(drum).signs.size();
        if (one < 1 || one >= n || other < 1 || other >= n || one == other) return -1;
        act();
        java.util.Collections.swap(s.drums.get(drum).signs, one, other);
        s.clearLogs();
        return 1;
    }

    // ---- programs: read as trees

    static final class Step {
        String word;
        int one, two;
        int[] signs;
        List<Step> body;
    }

    private List<Step> readSteps(Text t, int open) {
        List<Step> steps = new ArrayList<>();
        do {
            Step p = new Step();
            p.word = t.word();
            steps.add(p);
            switch (p.word) {
                case "row" -> {
                    p.one = t.number(0, s.rows - 1);
                    p.signs = t.quoted(0, s.wide);
                }
                case "scroll" -> p.signs = t.quoted(0, s.wide);
                case "home" -> p.one = t.number(0, s.rows - 1);
                case "wait" -> p.one = t.number(1, 99);
                case "settle" -> { }
                case "lose" -> {
                    p.one = t.number(0, s.cells.size() - 1);
                    p.two = t.number(0, 9);
                }
                case "times" -> {
                    p.one = t.number(0, 20);
                    t.must('(');
                    if (open == 3) throw new Fault(t.at - 1, 3);
                    p.body = readSteps(t, open + 1);
                    t.must(')');
                }
                default -> throw new Fault(t.begun, 1);
            }
        } while (t.comes(';'));
        return steps;
    }

    private int done;

    private void perform(List<Step> steps) {
        for (Step p : steps) {
            if (done == 200) return;
            done++;
            switch (p.word) {
                case "row" -> s.wantRow(p.one, p.signs);
                case "scroll" -> s.scroll(p.signs);
                case "home" -> s.cells.subList(p.one * s.wide, (p.one + 1) * s.wide).forEach(c -> c.wants = 0);
                case "wait" -> {
                    for (int i = 0; i < p.one; i++) s.tick();
                }
                case "settle" -> {
                    while (!s.tick().isEmpty()) { }
                }
                case "lose" -> s.cells.get(p.one).loses = p.two;
                default -> {
                    for (int i = 0; i < p.one; i++) perform(p.body);
                }
            }
        }
    }

    int run() {
        Text t = new Text(bytes());
        tape.clear();
        if (none()) return -1;
        List<Step> steps;
        try {
            steps = readSteps(t, 0);
            if (!t.ended()) throw new Fault(t.at, 1);
        } catch (Fault f) {
            return -2 - f.number;
        }
        act();
        done = 0;
        perform(steps);
        return done;
    }

    int undo() {
        if (past.isEmpty()) return -1;
        s = past.pop();
        return past.size();
    }

    int keep(int shelf) {
        if (shelf < 0 || shelf > 1) return -1;
        shelves[shelf] = s.copy();
        return s.cells.size();
    }

    int back(int shelf) {
        if (shelf < 0 || shelf > 1) return -1;
        if (shelves[shelf] == null) return -2;
        s = shelves[shelf].copy();
        past.clear();
        return s.cells.size();
    }

    int cell(int cell, int what) {
        if (!hasCell(cell) || what < 0 || what > 8) return -1;
        Cell c = s.cells.get(cell);
        return new int[] {c.drum, c.shows, c.believes, c.wants, s.left(c), c.loses, c.steps, c.found, c.worn.size()}[what];
    }

    long worn(int cell) {
        if (!hasCell(cell)) return -1;
        long bits = 0;
        for (int f : s.cells.get(cell).worn) bits += 1L << f;
        return bits;
    }

    int drum(int drum, int what) {
        if (!hasDrum(drum) || what < 0 || what > 4) return -1;
        Drum d = s.drums.get(drum);
        int most = 0;
        for (int v : d.signs) most = Math.max(most, java.util.Collections.frequency(d.signs, v));
        int cells = (int) s.cells.stream().filter(c -> c.drum == drum).count();
        return new int[] {d.current, d.signs.size(), cells, new HashSet<>(d.signs).size(), most}[what];
    }

    int sign(int drum, int flap) {
        if (!hasDrum(drum) || flap < 0 || flap >= s.drums.get(drum).signs.size()) return -1;
        return s.drums.get(drum).signs.get(flap);
    }

    int at(int row, int column, int what) {
        if (!hasRow(row) || column < 0 || column >= s.wide || what < 0 || what > 2) return -1;
        Cell c = s.cells.get(row * s.wide + column);
        return s.sign(c, what == 0 ? c.shows : what == 1 ? c.believes : c.wants);
    }

    long which(int what) {
        if (none() || what < 0 || what > 4) return -1;
        long bits = 0;
        List<Integer> turn = s.turning();
        for (int i = 0; i < s.cells.size(); i++) {
            Cell c = s.cells.get(i);
            boolean[] such = {s.left(c) > 0, c.shows != c.believes, s.sign(c, c.shows) != s.sign(c, c.wants),
                turn.contains(i), s.drumOf(c).current > s.limit};
            if (such[what]) bits |= 1L << i;
        }
        return bits;
    }

    int left(int what) {
        if (none() || what < 0 || what > 3) return -1;
        int all = 0, most = 0, current = 0;
        for (Cell c : s.cells) {
            all += s.left(c);
            most = Math.max(most, s.left(c));
            current += s.left(c) * s.drumOf(c).current;
        }
        return new int[] {all, most, current, Math.max(most, (int) Math.ceil(current / (double) s.limit))}[what];
    }

    int when(int what) {
        if (none() || what < 0 || what > 5) return -1;
        State t = s.copy();
        int ticks = 0, current = 0, wrong = 0;
        for (List<Integer> turn = t.tick(); !turn.isEmpty(); turn = t.tick()) {
            ticks++;
            current = Math.max(current, turn.stream().mapToInt(i -> t.drumOf(t.cells.get(i)).current).sum());
        }
        for (Cell c : t.cells) if (t.sign(c, c.shows) != t.sign(c, c.wants)) wrong++;
        return new int[] {ticks, t.steps - s.steps, t.clatter - s.clatter, current, wrong, t.found - s.found}[what];
    }

    int loudest(int what) {
        if (none() || what < 0 || what > 1) return -1;
        State t = s.copy();
        List<Integer> loud = new ArrayList<>();
        for (List<Integer> turn = t.tick(); !turn.isEmpty(); turn = t.tick()) loud.add(turn.size() * turn.size());
        if (loud.isEmpty()) return -2;
        int most = java.util.Collections.max(loud);
        return what == 0 ? loud.indexOf(most) : most;
    }

    int total(int what) {
        if (none() || what < 0 || what > 3) return -1;
        return new int[] {s.clatter, s.ticks, s.steps, s.found}[what];
    }

    /** {misses, flaps on}, the word from a column on. */
    private int[] weigh(int row, int column, int[] word) {
        int misses = 0, sum = 0;
        for (int k = 0; k < s.wide; k++) {
            Cell c = s.cells.get(row * s.wide + k);
            int flap = k < column || k >= column + word.length ? 0 : s.flapFor(c, word[k - column]);
            if (flap < 0) misses++;
            else sum += s.drumOf(c).on(c.believes, flap);
        }
        return new int[] {misses, sum};
    }

    int cost(int row) {
        if (!hasRow(row)) return -1;
        if (signs(bytes()) == null) return -2;
        return weigh(row, 0, bytes())[1];
    }

    int best(int row, int what) {
        if (!hasRow(row) || what < 0 || what > 2) return -1;
        List<List<Integer>> words = new ArrayList<>();
        words.add(new ArrayList<>());
        for (int b : tape) {
            if (b == 47) words.add(new ArrayList<>());
            else words.get(words.size() - 1).add(b);
        }
        int[][] answers = new int[words.size()][];
        for (int i = 0; i < answers.length; i++) {
            int[] word = words.get(i).stream().mapToInt(v -> v).toArray();
            if (signs(word) == null) return -2;
            int[] w = weigh(row, 0, word);
            answers[i] = new int[] {i, w[1], w[0]};
        }
        Arrays.sort(answers, Comparator.<int[]>comparingInt(a -> a[1]).thenComparingInt(a -> a[2]).thenComparingInt(a -> a[0]));
        return answers[0][what];
    }

    int place(int row, int what) {
        if (!hasRow(row) || what < 0 || what > 1) return -1;
        int[] word = bytes();
        if (word.length == 0 || signs(word) == null) return -2;
        List<int[]> answers = new ArrayList<>();
        for (int column = 0; column <= s.wide - word.length; column++) {
            int[] w = weigh(row, column, word);
            answers.add(new int[] {column, w[1], w[0]});
        }
        answers.sort(Comparator.<int[]>comparingInt(a -> a[2]).thenComparingInt(a -> a[1]).thenComparingInt(a -> a[0]));
        return answers.get(0)[what];
    }

    int log(int drum, int what) {
        if (!hasDrum(drum) || what < 0 || what > 2) return -1;
        Drum d = s.drums.get(drum);
        return new int[] {d.journey(0, 0), d.log.size(), new HashSet<>(d.log).size()}[what];
    }

    int often(int drum, int flap, boolean to) {
        if (sign(drum, flap) == -1) return -1;
        return (int) s.drums.get(drum).log.stream().filter(e -> e.get(to ? 1 : 0) == flap).count();
    }

    int usual(int drum, int what) {
        if (!hasDrum(drum) || what < 0 || what > 1) return -1;
        if (s.drums.get(drum).log.isEmpty()) return -2;
        int most = 0, which = -1;
        for (int f = 0; f < s.drums.get(drum).signs.size(); f++) {
            if (often(drum, f, true) > most) {
                most = often(drum, f, true);
                which = f;
            }
        }
        return what == 0 ? which : most;
    }

    int better(int drum, int what) {
        if (!hasDrum(drum) || what < 0 || what > 2) return -1;
        Drum d = s.drums.get(drum);
        int least = d.journey(0, 0);
        int[] answer = null;
        for (int one = 1; one < d.signs.size(); one++) {
            for (int other = one + 1; other < d.signs.size(); other++) {
                int j = d.journey(one, other);
                if (j < least) {
                    least = j;
                    answer = new int[] {j, one, other};
                }
            }
        }
        return answer == null ? -2 : answer[what];
    }

    int farthest(int cell, int what) {
        if (!hasCell(cell) || what < 0 || what > 1) return -1;
        Cell c = s.cells.get(cell);
        int most = -1, which = -1;
        for (int sign = 32; sign <= 126; sign++) {
            int flap = s.flapFor(c, sign);
            if (flap >= 0 && s.drumOf(c).on(c.believes, flap) > most) {
                most = s.drumOf(c).on(c.believes, flap);
                which = sign;
            }
        }
        return what == 0 ? most : which;
    }

    int lacks(int cell, int what) {
        if (!hasCell(cell) || what < 0 || what > 1) return -1;
        Cell c = s.cells.get(cell);
        int lacking = 0;
        for (int sign = 32; sign <= 126; sign++) {
            final int v = sign;
            boolean own = s.drumOf(c).signs.contains(v);
            boolean some = s.drums.stream().anyMatch(d -> d.signs.contains(v));
            if (s.flapFor(c, sign) < 0 && (what == 0 ? own : some && !own)) lacking++;
        }
        return lacking;
    }

    int rests(int cell) {
        if (!hasCell(cell)) return -1;
        State t = s.copy();
        for (int ticks = 0;; ticks++) {
            if (t.left(t.cells.get(cell)) == 0) return ticks;
            if (t.tick().isEmpty()) return -2;
        }
    }

    int unlike(int row, int other) {
        if (!hasRow(row) || !hasRow(other) || row == other) return -1;
        int n = 0;
        for (int k = 0; k < s.wide; k++) if (at(row, k, 2) != at(other, k, 2)) n++;
        return n;
    }

    int letter(int what, int k) {
        if (what < 0 || what > 1 || k < -1) return -1;
        StringBuilder b = new StringBuilder();
        for (int r = 0; r < s.rows; r++) {
            if (r > 0) b.append('/');
            for (int c = 0; c < s.wide; c++) b.append((char) at(r, c, what * 2));
        }
        return k == -1 ? b.length() : k >= b.length() ? -2 : b.charAt(k);
    }

    long digest() {
        long h = 17;
        for (int i = 0; i < s.cells.size(); i++) {
            for (int what : new int[] {0, 1, 2, 3, 5}) h = 31 * h + cell(i, what);
            h = 31 * h + worn(i);
        }
        return h;
    }

    int count(int what) {
        if (what < 0 || what > 8) return -1;
        int kept = (shelves[0] != null ? 1 : 0) + (shelves[1] != null ? 2 : 0);
        return new int[] {s.rows, s.wide, s.cells.size(), s.limit, s.drums.size(), past.size(), tape.size(), kept,
            s.turning().size()}[what];
    }
}
