import java.lang.reflect.InvocationTargetException;
import java.lang.reflect.Method;
import java.util.ArrayList;
import java.util.Arrays;
import java.util.Comparator;
import java.util.List;
import java.util.Random;

/** Random runs of calls, each answer held against PlainBoard's. */
public final class RandomRunsTest {
    private static final int RUNS = 6000;
    private static int wrong = 0;
    private static long calls = 0;
    private final Random random;
    private final FlapBoard real = new FlapBoard();
    private final PlainBoard plain = new PlainBoard();
    private final List<String> told = new ArrayList<>();
    private String alphabet = " ab";
    private int used = 0;

    private RandomRunsTest(long seed) {
        random = new Random(seed);
    }

    private static final Method[] FACE = face();

    private static Method[] face() {
        Method[] all = Arrays.stream(FlapBoard.class.getDeclaredMethods())
            .filter(m -> java.lang.reflect.Modifier.isPublic(m.getModifiers())).toArray(Method[]::new);
        Arrays.sort(all, Comparator.comparing(Method::getName));
        return all;
    }

    public static void main(String[] args) throws Exception {
        for (int seed = 0; seed < RUNS && wrong < 5; seed++) {
            new RandomRunsTest(seed).go();
        }
        System.out.println(calls + " calls, " + wrong + " runs with a wrong answer");
        if (wrong != 0) System.exit(1);
    }

    private int upTo(int n) {
        return random.nextInt(n + 1);
    }

    private void go() throws Exception {
        int length = 20 + upTo(300);
        boolean fine = true;
        while (fine && used < length) {
            int kind = upTo(99);
            if (kind < 12) fine = text(boardText(), "tell");
            else if (kind < 24) fine = text(programText(), "run");
            else if (kind < 34) fine = text(rowText(), "row", number(6));
            else if (kind < 40) fine = text(rowText(), "scroll");
            else if (kind < 44) fine = text(rowText(), null) && call("cost", number(6)) && call("place", number(6), number(2));
            else if (kind < 48) fine = text(rowText() + "/" + rowText() + "/" + rowText(), null) && call("best", number(6), number(3));
            else if (kind < 52) fine = aboutLog(number(3));
            else if (kind < 56) fine = call("settle");
            else fine = any();
            fine = fine && call("digest") && call("count", upTo(8)) && call("total", upTo(3));
            fine = fine && call("cell", upTo(Math.max(0, plain.s.cells.size() - 1)), upTo(8)) && call("log", upTo(3), upTo(2));
        }
        if (!fine) wrong++;
    }

    private boolean aboutLog(int drum) throws Exception {
        return call("better", drum, number(2)) && call("better", drum, upTo(2)) && call("usual", drum, number(1))
            && call("often", drum, number(5), random.nextBoolean());
    }

    private int number(int usual) {
        return upTo(20) == 0 ? upTo(140) - 20 : upTo(usual);
    }

    private boolean any() throws Exception {
        Method m = FACE[random.nextInt(FACE.length)];
        Object[] args = new Object[m.getParameterCount()];
        for (int i = 0; i < args.length; i++) {
            args[i] = m.getParameterTypes()[i] == boolean.class ? (Object) random.nextBoolean() : (Object) someNumber();
        }
        return call(m.getName(), args);
    }

    private int someNumber() {
        switch (upTo(12)) {
            case 0: return upTo(45) - 2;
            case 1: return random.nextInt();
            case 2: return upTo(110) - 5;
            case 3: return upTo(10) - 2;
            default: return upTo(5);
        }
    }

    private boolean text(String s, String name, Object... args) throws Exception {
        boolean fine = true;
        if (real.count(6) > 0) fine = call("end", 0);
        for (int i = 0; i < s.length() && fine; i += 20) {
            int[] v = Bench.packed(s, i);
            fine = call("feed", v[0], v[1], v[2], v[3], v[4]);
        }
        fine = fine && call("end", s.length());
        if (fine) told.add("   text: " + s);
        return fine && (name == null || call(name, args));
    }

    private boolean call(String name, Object... args) throws Exception {
        Method m = Arrays.stream(FACE).filter(f -> f.getName().equals(name)).findFirst().orElseThrow();
        Method p = PlainBoard.class.getDeclaredMethod(name, m.getParameterTypes());
        Object due = p.invoke(plain, args);
        Object got;
        try {
            got = m.invoke(real, args);
        } catch (InvocationTargetException e) {
            got = e.getCause();
            e.getCause().printStackTrace(System.out);
        }
        used++;
        calls++;
        told.add(name + Arrays.toString(args) + " -> " + got);
        if (got.equals(due)) return true;
        for (String line : told) System.out.println(line);
        System.out.println("due is " + due);
        return false;
    }

    // ---- texts

    private String blanks() {
        return upTo(8) == 0 ? " ".repeat(upTo(3)) : "";
    }

    private String gap() {
        return " ".repeat(1 + (upTo(9) == 0 ? upTo(2) : 0));
    }

    private String signs(int most) {
        StringBuilder b = new StringBuilder();
        int n = upTo(most);
        for (int i = 0; i < n; i++) b.append(alphabet.charAt(random.nextInt(alphabet.length())));
        return b.toString();
    }

    private String rowText() {
        String s = signs(Math.max(1, plain.s.wide) + (upTo(12) == 0 ? 1 : 0));
        return upTo(25) == 0 ? spoilt(s) : s;
    }

    private String spoilt(String s) {
        if (s.length() == 0) return "'";
        int at = random.nextInt(s.length());
        String[] pieces = {"", " ", "'", ";", "(", ")", "0", "9", "x", "drum", "\u0001", "\u00e9", "99999999999", "1"};
        String piece = pieces[random.nextInt(pieces.length)];
        int cut = upTo(3) == 0 ? 0 : 1;
        return s.substring(0, at) + piece + s.substring(at + cut);
    }

    private String boardText() {
        int size = upTo(4) == 0 ? 40 : 5;
        String[] alphabets = {" ab", " abcdef", " abcdefghijklmnopqrstuvwxyz0123456789.,-!?/", "xyz /", "~a!~b"};
        alphabet = alphabets[random.nextInt(alphabets.length)];
        int rows = 1 + upTo(upTo(3) == 0 ? 5 : 2);
        int wide = 1 + upTo(upTo(3) == 0 ? 9 : 3);
        if (rows * wide > 40 && upTo(3) > 0) wide = 40 / rows;
        StringBuilder b = new StringBuilder();
        b.append(blanks()).append("board").append(blanks()).append(rows).append(gap()).append(wide).append(blanks());
        b.append("limit").append(gap()).append(upTo(2) == 0 ? 1 + upTo(98) : 1 + upTo(20)).append(blanks());
        int drums = 0;
        int parts = 1 + upTo(9);
        int[] flaps = new int[8];
        int cells = rows * wide;
        for (int i = 0; i < parts && b.length() < 330; i++) {
            b.append(';').append(blanks());
            int kind = drums == 0 && upTo(30) > 0 ? 0 : upTo(9);
            if (kind < 3 && (drums < 4 || upTo(12) == 0)) {
                String s = signs(size);
                if (s.length() < 2 && upTo(9) > 0) s = " ab";
                if (upTo(3) == 0 && s.length() < 40) s = " " + s;
                flaps[Math.min(7, drums)] = s.length();
                drums++;
                b.append("drum").append(gap()).append(1 + upTo(8)).append(blanks()).append("'").append(s).append("'");
            } else if (kind < 5) {
                int from = upTo(cells - 1);
                int to = upTo(30) == 0 ? upTo(cells) : from + upTo(cells - 1 - from);
                b.append("cells ").append(from).append(gap()).append(to).append(gap()).append(upTo(25) == 0 ? drums : upTo(Math.max(0, drums - 1)));
            } else if (kind < 7) {
                b.append("worn ").append(upTo(cells - 1)).append(gap()).append(1 + upTo(upTo(4) == 0 ? 38 : 2));
            } else if (kind < 9) {
                b.append("row").append(gap()).append(upTo(rows - 1)).append(blanks()).append("'").append(signs(wide)).append("'");
            } else {
                b.append("lose").append(gap()).append(upTo(cells - 1)).append(gap()).append(upTo(9));
            }
            b.append(blanks());
        }
        String s = b.toString();
        if (upTo(3) == 0) s = spoilt(s);
        if (upTo(30) == 0) s = s.substring(0, upTo(s.length()));
        return s.length() > 400 ? s.substring(0, 400) : s;
    }

    private String programText() {
        StringBuilder b = new StringBuilder();
        steps(b, 0);
        String s = b.toString();
        if (upTo(3) == 0) s = spoilt(s);
        if (upTo(30) == 0) s = s.substring(0, upTo(s.length()));
        return s.length() > 400 ? s.substring(0, 400) : s;
    }

    private void steps(StringBuilder b, int open) {
        int n = 1 + upTo(4);
        int cells = Math.max(1, plain.s.cells.size());
        int rows = Math.max(1, plain.s.rows);
        int wide = Math.max(1, plain.s.wide);
        for (int i = 0; i < n; i++) {
            if (i > 0) b.append(';');
            b.append(blanks());
            int kind = upTo(7);
            if (kind == 0 && (open < 3 || upTo(5) == 0) && b.length() < 300) {
                b.append("times").append(gap()).append(upTo(4) == 0 ? upTo(20) : upTo(3)).append(blanks()).append('(');
                steps(b, open + 1);
                b.append(')');
            } else if (kind == 1) {
                b.append("scroll").append(blanks()).append("'").append(signs(wide)).append("'");
            } else if (kind == 2) {
                b.append("home ").append(upTo(rows - 1));
            } else if (kind == 3) {
                b.append("wait").append(gap()).append(1 + upTo(upTo(3) == 0 ? 98 : 4));
            } else if (kind == 4) {
                b.append("settle");
            } else if (kind == 5) {
                b.append("lose ").append(upTo(cells - 1)).append(gap()).append(upTo(9));
            } else {
                b.append("row").append(gap()).append(upTo(rows - 1)).append(gap()).append("'").append(signs(wide)).append("'");
            }
            b.append(blanks());
        }
    }
}
