import java.lang.reflect.Executable;
import java.lang.reflect.Field;
import java.lang.reflect.Method;
import java.lang.reflect.Modifier;
import java.nio.file.Files;
import java.nio.file.Path;
import java.util.Arrays;
import java.util.Map;
import java.util.Set;
import java.util.TreeMap;
import java.util.TreeSet;
import java.util.regex.Matcher;
import java.util.regex.Pattern;
import java.util.stream.Collectors;

/** What of LANGUAGE.md can be seen without running: the face, its size, words that may not stand in the source. */
public final class LanguageTest {
    private static final Path SOURCE = Path.of("src/main/java/FlapBoard.java");
    private static final Path DOC = Path.of("../shared/DOC.md");
    private static int wrong = 0;

    private static void fault(String what) {
        wrong++;
        System.out.println(what);
    }

    public static void main(String[] args) throws Exception {
        String source = Files.readString(SOURCE);
        face();
        nested(FlapBoard.class);
        words(bare(source));
        methodLengths(source);
        callDepths(bare(source));
        System.out.println(wrong == 0 ? "the language is kept to" : wrong + " rules are broken");
        if (wrong != 0) System.exit(1);
    }

    /** The face that the document writes out is the class's, and no more. */
    private static void face() throws Exception {
        Matcher m = Pattern.compile("    public (int|long) (\\w+)\\((.*)\\);").matcher(Files.readString(DOC));
        Set<String> due = new TreeSet<>();
        while (m.find()) {
            String types = m.group(3).replaceAll(" \\w+(,|$)", "$1").replace(" ", "");
            due.add(m.group(1) + " " + m.group(2) + "(" + types + ")");
        }
        Set<String> there = new TreeSet<>();
        for (Method method : FlapBoard.class.getDeclaredMethods()) {
            int mods = method.getModifiers();
            if (Modifier.isPrivate(mods)) continue;
            if (!Modifier.isPublic(mods) || Modifier.isStatic(mods)) fault("not private: " + method);
            String types = Arrays.stream(method.getParameterTypes()).map(Class::getName).collect(Collectors.joining(","));
            there.add(method.getReturnType().getName() + " " + method.getName() + "(" + types + ")");
        }
        if (due.size() != 40 || !due.equals(there)) fault("the face is " + there + ", due is " + due);
        if (!Modifier.isFinal(FlapBoard.class.getModifiers())) fault("the class is not final");
        if (FlapBoard.class.getDeclaredConstructors().length != 1) fault("not one constructor");
        for (Field field : FlapBoard.class.getDeclaredFields()) {
            if (!Modifier.isPrivate(field.getModifiers()) && !field.getName().equals("NONE")) fault("not private: " + field);
        }
        Set<String> names = there.stream().map(s -> s.replaceAll("^\\w+ (\\w+).*", "$1")).collect(Collectors.toSet());
        for (Class<?> c : FlapBoard.class.getDeclaredClasses()) {
            for (Method method : c.getDeclaredMethods()) {
                if (names.contains(method.getName())) fault("bears the name of a public one: " + method);
            }
        }
        for (Method method : FlapBoard.class.getDeclaredMethods()) {
            if (Modifier.isPrivate(method.getModifiers()) && names.contains(method.getName())) fault("bears the name of a public one: " + method);
        }
    }

    private static void nested(Class<?> outer) {
        Class<?>[] inside = outer.getDeclaredClasses();
        if (inside.length > 11) fault("too many classes");
        limits(outer);
        for (Class<?> c : inside) {
            if (!Modifier.isStatic(c.getModifiers())) fault("not static: " + c);
            limits(c);
        }
    }

    private static void limits(Class<?> c) {
        int fields = 0;
        for (Field field : c.getDeclaredFields()) {
            if (!Modifier.isStatic(field.getModifiers())) fields++;
            else if (!Modifier.isFinal(field.getModifiers())) fault("static, not final: " + field);
        }
        if (fields > 20) fault(fields + " fields: " + c);
        for (Executable e : c.getDeclaredMethods()) {
            if (e.getParameterCount() > 7) fault("parameters: " + e);
            if (e.isSynthetic()) fault("made by the compiler: " + e);
        }
    }

    private static String bare(String source) {
        return source.replaceAll("(?s)/\\*.*?\\*/", "").replaceAll("//[^\n]*", "")
            .replaceAll("\"(\\\\.|[^\"\\\\])*\"", "\"\"").replaceAll("'(\\\\.|[^'\\\\])'", "' '");
    }

    private static void words(String bare) {
        String forbidden = "\\b(throw|throws|try|catch|finally|synchronized|assert|instanceof|native|volatile|var|yield|package|"
            + "hashCode|toString|System\\.out|Object|Exception|\\w+Exact)\\b|->|::|@|[\\w\"] \\+ \"";
        Matcher m = Pattern.compile(forbidden).matcher(bare);
        while (m.find()) fault("may not stand there: " + m.group());
        m = Pattern.compile("(?m)^import (.*);").matcher(bare);
        while (m.find()) {
            if (!Set.of("java.util.Arrays", "java.util.ArrayList", "java.util.List", "java.util.Iterator").contains(m.group(1))) {
                fault("import " + m.group(1));
            }
        }
        m = Pattern.compile("\\b(Math|Arrays|System|Long|Integer)\\.(\\w+)").matcher(bare);
        Set<String> known = Set.of("Math.max", "Math.min", "Arrays.fill", "System.arraycopy", "Long.bitCount");
        while (m.find()) {
            if (!known.contains(m.group())) fault("library: " + m.group());
        }
        for (char c : bare.toCharArray()) {
            if (c > 126) fault("a sign beyond 126");
        }
    }

    private static void methodLengths(String source) {
        String[] lines = source.split("\n");
        Pattern head = Pattern.compile("( {4}| {8})(?!if|for|while|switch|else)\\w.*\\(.*\\) \\{");
        for (int i = 0; i < lines.length; i++) {
            Matcher m = head.matcher(lines[i]);
            if (!m.matches()) continue;
            int last = i;
            while (last < lines.length && !lines[last].equals(m.group(1) + "}")) last++;
            if (last - i > 60) fault("long: " + lines[i].trim());
        }
    }

    /** By names, as no two methods of the file bear the same one: no recursion, and at most eight calls open at once. */
    private static void callDepths(String bare) {
        Map<String, String> bodies = new TreeMap<>();
        Pattern head = Pattern.compile("(?m)^( {4}| {8})(?! |if|for|while|switch|else|return|new)[\\w \\[\\]]*?(\\w+)\\([^()]*\\) \\{$");
        Matcher m = head.matcher(bare);
        while (m.find()) {
            int end = bare.indexOf("\n" + m.group(1) + "}", m.end());
            if (bodies.put(m.group(2), bare.substring(m.end(), end)) != null) fault("two methods of one name: " + m.group(2));
        }
        for (Class<?> c : FlapBoard.class.getDeclaredClasses()) found(c, bodies.keySet());
        found(FlapBoard.class, bodies.keySet());
        Map<String, Integer> depths = new TreeMap<>();
        for (String name : bodies.keySet()) {
            int depth = depth(name, bodies, depths, new TreeSet<>());
            if (depth > 8) fault(depth + " calls deep: " + name);
        }
    }

    private static void found(Class<?> c, Set<String> names) {
        for (Method method : c.getDeclaredMethods()) {
            if (!names.contains(method.getName())) fault("not found in the source: " + method);
        }
    }

    private static int depth(String name, Map<String, String> bodies, Map<String, Integer> depths, Set<String> open) {
        if (depths.containsKey(name)) return depths.get(name);
        if (!open.add(name)) {
            fault("recursion: " + name);
            return 0;
        }
        int most = 0;
        Matcher m = Pattern.compile("\\b(\\w+)\\(").matcher(bodies.get(name));
        while (m.find()) {
            if (bodies.containsKey(m.group(1))) most = Math.max(most, depth(m.group(1), bodies, depths, open));
        }
        open.remove(name);
        depths.put(name, most + 1);
        return most + 1;
    }
}
