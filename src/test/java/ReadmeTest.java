import java.lang.reflect.InvocationTargetException;
import java.lang.reflect.Method;
import java.lang.reflect.Modifier;
import java.nio.file.Files;
import java.nio.file.Path;
import java.util.Set;
import java.util.TreeSet;
import java.util.regex.Matcher;
import java.util.regex.Pattern;

/** What README.md tells of the class: its calls answer what stands behind them, and no call of the face is left out. */
public final class ReadmeTest extends Checks {
    private static final Pattern CALL = Pattern.compile("x\\.(\\w+)\\((.*?)\\); +// (\\S+?)(:.*|,.*)?");
    private static final Pattern LOAD = Pattern.compile("load\\(x, \"(.*?)\"\\); +// (\\S+?)(:.*)?");
    private static final int FEWEST_CALLS = 20;

    private static JumpFence x = new JumpFence();

    public static void main(String[] args) throws Exception {
        String readme = Files.readString(Path.of("README.md"));
        boolean inCode = false;
        for (String line : readme.split("\n")) {
            if (line.startsWith("```")) {
                inCode = line.equals("```java");
            } else if (inCode && !line.startsWith(" ")) {
                about("README.md, " + line);
                play(line);
            }
        }
        about("README.md");
        if (askedSoFar() < FEWEST_CALLS) {
            fail("it has few calls: " + askedSoFar());
        }
        allCalls(readme);
        leave("README.md is right");
    }

    private static void play(String line) {
        Matcher call = CALL.matcher(line);
        Matcher load = LOAD.matcher(line);
        if (line.equals("JumpFence x = new JumpFence();")) {
            x = new JumpFence();
        } else if (load.matches()) {
            put(x, load.group(1));
            due("load()", x::load, load.group(2));
        } else if (call.matches()) {
            due(call.group(1), () -> answerOf(call.group(1), call.group(2)), call.group(3));
        } else if (!line.startsWith("static int load(") && !line.equals("}")) {
            fail("the line is none that can be played");
        }
    }

    private static Object answerOf(String name, String given) {
        String[] words = given.isEmpty() ? new String[0] : given.split(", *");
        for (Method m : JumpFence.class.getMethods()) {
            if (m.getName().equals(name) && m.getParameterCount() == words.length) {
                Object[] values = new Object[words.length];
                for (int k = 0; k < words.length; k++) {
                    values[k] = valueOf(words[k], m.getParameterTypes()[k]);
                }
                return invoked(m, values);
            }
        }
        return "no such call";
    }

    private static Object valueOf(String word, Class<?> type) {
        if (type == boolean.class) {
            return Boolean.valueOf(word);
        }
        long n = Long.decode(word);
        return type == long.class ? (Object) n : (Object) (int) n;
    }

    private static Object invoked(Method m, Object[] values) {
        try {
            return m.invoke(x, values);
        } catch (IllegalAccessException | InvocationTargetException e) {
            return "throws." + e.getCause();
        }
    }

    /** The table of the calls has each call of the face once, and no other. */
    private static void allCalls(String readme) {
        Set<String> due = new TreeSet<>();
        for (Method m : JumpFence.class.getDeclaredMethods()) {
            if (Modifier.isPublic(m.getModifiers())) {
                due.add(m.getName());
            }
        }
        Set<String> told = new TreeSet<>();
        Matcher names = Pattern.compile("`(\\w+)`[,| ]").matcher(String.join("\n",
                readme.lines().filter(l -> l.startsWith("| ")).toList()));
        while (names.find()) {
            if (!told.add(names.group(1))) {
                fail("the table has " + names.group(1) + " twice");
            }
        }
        if (!told.equals(due)) {
            fail("the table has " + told + ", the face " + due);
        }
    }
}
