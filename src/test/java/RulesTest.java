import java.lang.reflect.Constructor;
import java.lang.reflect.Field;
import java.lang.reflect.Method;
import java.lang.reflect.Modifier;
import java.nio.file.Files;
import java.nio.file.Path;
import java.util.Arrays;
import java.util.List;
import java.util.Set;
import java.util.TreeSet;
import java.util.regex.Matcher;
import java.util.regex.Pattern;

/** What can be looked at from outside: the face of the class, and the rules of LANGUAGE.md. */
public final class RulesTest {
    private static final String[] FACE = {
        "int feed(int, int, int, int, int)", "boolean end(int)", "int load() IllegalArgumentException",
        "int fault()", "int order(int, int) IndexOutOfBoundsException NoSuchElementException",
        "boolean grade(int, int) IndexOutOfBoundsException ClassCastException IllegalArgumentException",
        "void ticks(int, int) IllegalArgumentException",
        "long landings(int, boolean) IndexOutOfBoundsException ClassCastException",
        "long lets(int) IndexOutOfBoundsException ClassCastException",
        "long holds(int) IndexOutOfBoundsException", "boolean odd(int) IndexOutOfBoundsException",
        "int bend(int, int, int) IndexOutOfBoundsException IllegalArgumentException UnsupportedOperationException",
        "int straight()", "int run(boolean, int) NoSuchElementException", "int step(boolean, int)",
        "int said(boolean, int)", "int cell(boolean, int) IndexOutOfBoundsException",
        "int power(int, boolean) IllegalArgumentException UnsupportedOperationException",
        "int harm(int) IllegalArgumentException UnsupportedOperationException",
        "int reach(int, int) IndexOutOfBoundsException", "int row(int, int, int) IndexOutOfBoundsException",
        "long closed(int) IndexOutOfBoundsException", "int least(int, int, int) IndexOutOfBoundsException",
        "int marks()", "int joined(int) IllegalArgumentException",
        "int fence(int, int, long, int) IndexOutOfBoundsException IllegalArgumentException",
        "int late(int) IllegalArgumentException", "int judge()", "void image()", "boolean back()", "int count(int)"
    };

    private static int wrong = 0;

    public static void main(String[] args) throws Exception {
        String source = Files.readString(Path.of(args.length > 0 ? args[0] : "src/main/java/JumpFence.java"));
        face();
        classesInside();
        words(source);
        lengths(source);
        if (wrong == 0) {
            System.out.println("the face and the rules are kept");
        }
        System.exit(wrong == 0 ? 0 : 1);
    }

    private static void right(boolean right, String what) {
        if (!right) {
            wrong++;
            System.out.println("rule broken: " + what);
        }
    }

    private static String told(Method m) {
        StringBuilder t = new StringBuilder(m.getReturnType() + " " + m.getName() + "(");
        for (Class<?> p : m.getParameterTypes()) {
            t.append(t.charAt(t.length() - 1) == '(' ? "" : ", ").append(p);
        }
        t.append(')');
        for (Class<?> e : m.getExceptionTypes()) {
            t.append(' ').append(e.getSimpleName());
        }
        return t.toString();
    }

    private static boolean hidden(int modifiers) {
        return Modifier.isPrivate(modifiers);
    }

    private static void face() throws Exception {
        Class<?> c = JumpFence.class;
        right(Modifier.isPublic(c.getModifiers()) && Modifier.isFinal(c.getModifiers()), "public and final");
        Set<String> due = new TreeSet<>(Arrays.asList(FACE));
        Set<String> got = new TreeSet<>();
        for (Method m : c.getDeclaredMethods()) {
            if (!hidden(m.getModifiers())) {
                got.add(told(m));
                right(Modifier.isPublic(m.getModifiers()), m + " is public");
            }
        }
        right(due.equals(got), "the face is " + got);
        for (Field f : c.getDeclaredFields()) {
            right(hidden(f.getModifiers()) || f.getName().equals("NONE"), f + " is private");
        }
        right(c.getField("NONE").getInt(null) == -1, "NONE is -1");
        Constructor<?>[] made = c.getDeclaredConstructors();
        right(made.length == 1 && made[0].getParameterCount() == 0, "one constructor");
    }

    private static void classesInside() {
        Set<String> names = new TreeSet<>();
        for (String f : FACE) {
            names.add(f.replaceAll("^\\S+ ", "").replaceAll("\\(.*", ""));
        }
        Class<?>[] inside = JumpFence.class.getDeclaredClasses();
        right(inside.length + 1 <= 12, "at most some twelve classes");
        for (Class<?> c : inside) {
            right(Modifier.isStatic(c.getModifiers()), c + " is static");
            for (Method m : c.getDeclaredMethods()) {
                right(!names.contains(m.getName()), m + " bears the name of a public one");
                right(m.getParameterCount() <= 7, m + " takes at most seven");
            }
            long fields = Arrays.stream(c.getDeclaredFields()).filter(f -> !Modifier.isStatic(f.getModifiers())).count();
            right(fields <= 20, c + " has at most some twenty fields");
            for (Field f : c.getDeclaredFields()) {
                right(!Modifier.isStatic(f.getModifiers()) || Modifier.isFinal(f.getModifiers()), f + " is final");
            }
        }
    }

    private static void words(String source) {
        for (String w : List.of("catch", "finally", "try", "synchronized", "assert", "instanceof", "package", "native",
                "var", "record", "protected", "double", "float", "numberOfTrailingZeros")) {
            right(!Pattern.compile("\\b" + w + "\\b").matcher(source.replaceAll("(?m)//.*$|/\\*[^/]*\\*/", "")).find(),
                    "the word " + w);
        }
        right(!source.contains("->") && !source.contains("::"), "no lambda and no method reference");
        Matcher imports = Pattern.compile("(?m)^import (.*);").matcher(source);
        while (imports.find()) {
            right(List.of("java.util.Arrays", "java.util.NoSuchElementException").contains(imports.group(1)),
                    "import " + imports.group(1));
        }
        Matcher thrown = Pattern.compile("throw (.*);").matcher(source);
        while (thrown.find()) {
            right(thrown.group(1).matches("new (IllegalArgument|IndexOutOfBounds|UnsupportedOperation|NoSuchElement"
                    + "|ClassCast)(Exception)\\(\"[^\"]*\"\\)"), "throw " + thrown.group(1));
        }
        right(source.chars().allMatch(b -> b == '\n' || b >= 32 && b < 127), "signs 32 to 126 alone");
        right(!Pattern.compile("while \\(true\\)|for \\(;;\\)").matcher(source).find(), "loops have an end");
    }

    private static void lengths(String source) {
        int begin = -1;
        String head = "";
        String[] lines = source.split("\n");
        for (int k = 0; k < lines.length; k++) {
            if (lines[k].matches(" {4}( {4})?[^ /*].*\\) ?(throws .*)?\\{")) {
                begin = k;
                head = lines[k];
            }
            if (begin >= 0 && lines[k].matches(" {4}( {4})?\\}")) {
                right(k - begin <= 60, "short methods: " + head);
                begin = -1;
            }
        }
    }
}
