import java.util.function.Supplier;

/** What the tests by hand share: calls held against the answers that are due, and objects with texts loaded. */
class Checks {
    static final int NONE = JumpFence.NONE;
    static final String BASE =
            "point c1 at 5;by c1 kind 1;door 1;stop;entry 2 stop;entry 1 set c2 = 7;back;entry 1 door 66;back";

    private static String label = "";
    private static int asked = 0;
    private static int wrong = 0;

    /** What the calls from now on are about: it is told with each wrong answer. */
    static void about(String what) {
        label = what;
    }

    static int askedSoFar() {
        return asked;
    }

    static void fail(String why) {
        wrong++;
        System.out.println(label + ": " + why);
    }

    static void leave(String allIsRight) {
        if (wrong == 0) {
            System.out.println(allIsRight);
        }
        System.exit(wrong == 0 ? 0 : 1);
    }

    static String answer(Supplier<Object> call) {
        try {
            return String.valueOf(call.get());
        } catch (RuntimeException e) {
            return "throws." + e.getClass().getSimpleName();
        }
    }

    static void due(String call, Supplier<Object> got, Object want) {
        asked++;
        String answer = answer(got);
        if (!answer.equals(String.valueOf(want))) {
            fail(call + " answered " + answer + ", due is " + want);
        }
    }

    static void refused(String call, String exception, Supplier<Object> got) {
        due(call, got, "throws." + exception);
    }

    static void index(String call, Supplier<Object> got) {
        refused(call, "IndexOutOfBoundsException", got);
    }

    static void noJump(String call, Supplier<Object> got) {
        refused(call, "ClassCastException", got);
    }

    static void argument(String call, Supplier<Object> got) {
        refused(call, "IllegalArgumentException", got);
    }

    static void full(String call, Supplier<Object> got) {
        refused(call, "UnsupportedOperationException", got);
    }

    static void noSuch(String call, Supplier<Object> got) {
        refused(call, "NoSuchElementException", got);
    }

    static int ticksOf(JumpFence x, int grade, int n) {
        x.ticks(grade, n);
        return 0;
    }

    static void put(JumpFence x, String text) {
        for (int k = 0; k < text.length(); k += 20) {
            int[] n = new int[5];
            for (int j = 0; j < 20 && k + j < text.length(); j++) {
                n[j / 4] |= text.charAt(k + j) << 24 - 8 * (j % 4);
            }
            if (x.feed(n[0], n[1], n[2], n[3], n[4]) == NONE) {
                throw new IllegalStateException("the text is too long: " + text);
            }
        }
        x.end(text.length());
    }

    static JumpFence with(String... parts) {
        JumpFence x = new JumpFence();
        for (String part : parts) {
            put(x, part);
            x.load();
        }
        return x;
    }

    static String many(String order, int n) {
        return (order + ";").repeat(n - 1) + order;
    }

    static void runs(JumpFence x, boolean bent, int... dues) {
        for (int k = 0; k < dues.length; k++) {
            int what = k;
            due("run(" + bent + ", " + k + ")", () -> x.run(bent, what), dues[k]);
        }
    }

    static void steps(JumpFence x, boolean bent, int... dues) {
        for (int k = 0; k < dues.length; k++) {
            int i = k;
            due("step(" + bent + ", " + k + ")", () -> x.step(bent, i), dues[k]);
        }
        due("step behind the end", () -> x.step(bent, dues.length), NONE);
    }

    static void row(JumpFence x, int power, int harm, int... dues) {
        for (int k = 0; k < dues.length; k++) {
            int i = k;
            due("row(" + power + ", " + harm + ", " + k + ")", () -> x.row(power, harm, i), dues[k]);
        }
        due("row behind its end", () -> x.row(power, harm, dues.length), NONE);
    }

    static void counts(JumpFence x, int... dues) {
        for (int k = 0; k < dues.length; k++) {
            int what = k;
            due("count(" + k + ")", () -> x.count(what), dues[k]);
        }
    }

    static void reaches(String text, int cells, boolean row, int harm, int want) {
        JumpFence x = with(text);
        x.power(cells, row);
        x.harm(harm);
        due("reach in '" + text + "'", () -> x.reach(0, 0), want);
    }

    static void record(JumpFence x, int want, int... steps) {
        StringBuilder t = new StringBuilder();
        for (int s : steps) {
            t.append((char) s);
        }
        put(x, t.toString());
        due("judge() of a RECORD", x::judge, want);
        due("end(1) of a TAPE that is used up", () -> x.end(1), false);
    }
}
