import java.io.IOException;
import java.lang.reflect.InvocationTargetException;
import java.lang.reflect.Method;
import java.lang.reflect.Modifier;
import java.nio.file.Files;
import java.nio.file.Path;
import java.util.Arrays;
import java.util.Set;
import java.util.TreeSet;
import java.util.regex.Matcher;
import java.util.regex.Pattern;

/**
 * README.md: the run that it shows answers what it says (promises 1, 2, 4, 9 to 13, 16, 19), and it names every call of
 * the document's face (promises 2 to 24) and every constant with its number.
 */
public final class ReadmeTest {
    private static final Pattern CALL = Pattern.compile("court\\.(\\w+)\\(([-0-9, ]*)\\); +// (-?\\d+): .+");
    private static final String[] CONSTANTS = {"NUMBER", "FULL", "KIND", "NONE", "TWICE"};

    private static int wrong = 0;

    private static void must(boolean holds, String what) {
        if (!holds) {
            wrong++;
            System.out.println("not so: " + what);
        }
    }

    public static void main(String[] args) throws IOException {
        String readme = Files.readString(Path.of("README.md"));
        int calls = exampleAnswersAsItSays(readme);
        namesAllOfTheFace(readme);
        System.out.println("readme: " + calls + " calls of its run, " + wrong + " wrong");
        if (wrong != 0) {
            System.exit(1);
        }
    }

    private static int exampleAnswersAsItSays(String readme) {
        Matcher block = Pattern.compile("(?s)```java\n(.*?)```").matcher(readme);
        must(block.find(), "README.md shows a run");
        String[] lines = block.group(1).split("\n");
        must(lines[0].equals("VeinCourt court = new VeinCourt();"), "the run begins with a new object");
        VeinCourt court = new VeinCourt();
        for (String line : Arrays.copyOfRange(lines, 1, lines.length)) {
            Matcher call = CALL.matcher(line);
            must(call.matches(), "a call with its answer: " + line);
            if (call.matches()) {
                int got = answer(court, call.group(1), call.group(2));
                must(got == Integer.parseInt(call.group(3)), line + " (it answered " + got + ")");
            }
        }
        must(lines.length > 1, "the run has calls");
        return lines.length - 1;
    }

    private static int answer(VeinCourt court, String name, String list) {
        Object[] given = list.isEmpty() ? new Object[0]
                : Arrays.stream(list.split(", ")).map(Integer::valueOf).toArray();
        Class<?>[] types = new Class<?>[given.length];
        Arrays.fill(types, int.class);
        try {
            return (Integer) VeinCourt.class.getMethod(name, types).invoke(court, given);
        } catch (NoSuchMethodException | IllegalAccessException | InvocationTargetException e) {
            must(false, name + "(" + list + ") is a call: " + e);
            return 0;
        }
    }

    private static void namesAllOfTheFace(String readme) {
        Set<String> names = new TreeSet<>();
        for (Method m : VeinCourt.class.getDeclaredMethods()) {
            if (Modifier.isPublic(m.getModifiers())) {
                names.add(m.getName());
            }
        }
        for (String name : names) {
            must(readme.contains("`" + name + "`"), "README.md names " + name);
        }
        for (int i = 0; i < CONSTANTS.length; i++) {
            must(readme.contains("`" + CONSTANTS[i] + "` (" + (-1 - i) + ")"), "README.md names " + CONSTANTS[i]);
        }
    }
}
