import java.lang.reflect.Method;
import java.lang.reflect.Modifier;
import java.nio.file.Files;
import java.nio.file.Path;
import java.util.Arrays;
import java.util.Set;
import java.util.TreeSet;
import java.util.regex.Matcher;
import java.util.regex.Pattern;
import java.util.stream.Collectors;

/** README.md tells no untruth: the calls it writes out answer what stands beside them, its table has the whole face. */
public final class ReadmeTest extends Bench {
    private static final Pattern LINE = Pattern.compile("(?m)^tape\\(x, \"(.*)\"\\);$|^x\\.(\\w+)\\((.*)\\); +// (-?\\d+)");

    public static void main(String[] args) throws Exception {
        String readme = Files.readString(Path.of("README.md"));
        about = "README.md";
        example(readme);
        table(readme);
        finish("README.md tells what is so");
    }

    private static void example(String readme) throws Exception {
        Matcher m = LINE.matcher(readme);
        int calls = 0;
        while (m.find()) {
            if (m.group(1) != null) {
                tape(m.group(1));
            } else {
                calls++;
                due(m.group(2) + "(" + m.group(3) + ")", answer(m.group(2), m.group(3)), Long.parseLong(m.group(4)));
            }
        }
        if (calls < 10) blame("only " + calls + " calls are found");
    }

    private static long answer(String name, String numbers) throws Exception {
        Object[] given = numbers.isEmpty() ? new Object[0] : Arrays.stream(numbers.split(", ")).map(Integer::valueOf).toArray();
        for (Method method : FlapBoard.class.getDeclaredMethods()) {
            if (method.getName().equals(name)) return ((Number) method.invoke(x, given)).longValue();
        }
        blame("no call " + name);
        return 0;
    }

    private static void table(String readme) {
        Set<String> named = new TreeSet<>();
        Matcher row = Pattern.compile("(?m)^\\| [^|]* \\| (`.*) \\|$").matcher(readme);
        while (row.find()) {
            for (String name : row.group(1).split(", ")) {
                if (!named.add(name.replace("`", ""))) blame(name + " stands there twice");
            }
        }
        Set<String> face = Arrays.stream(FlapBoard.class.getDeclaredMethods()).filter(m -> Modifier.isPublic(m.getModifiers()))
            .map(Method::getName).collect(Collectors.toCollection(TreeSet::new));
        if (!named.equals(face)) blame("the table has " + named + ", the face " + face);
    }
}
