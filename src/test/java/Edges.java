import java.util.ArrayList;
import java.util.Arrays;
import java.util.List;

/** The document's sentences, each with calls that would answer otherwise if it were broken. */
class Edges extends Checks {
    static final int LOWEST = Integer.MIN_VALUE;
    static final int HIGHEST = Integer.MAX_VALUE;

    private static final List<String> SENTENCES = new ArrayList<>();
    private static int askedBefore = 0;

    /** The calls from now on are about this sentence, told as the document tells it. */
    static void sentence(String words) {
        endSentence();
        SENTENCES.add(words);
        about("\"" + words + "\"");
    }

    static void endSentence() {
        if (!SENTENCES.isEmpty() && askedSoFar() == askedBefore) {
            fail("no call asks for it");
        }
        askedBefore = askedSoFar();
    }

    static List<String> sentences() {
        return SENTENCES;
    }

    /** Numbers too small and too great: next to the bounds, far away, and where bits wrap around. */
    static int[] outside(int from, int to) {
        int[] some = {from - 1, from - 2, from - 64, from - 65536, LOWEST, LOWEST + 1, to + 1, to + 2, from + 32,
            from + 64, from + 256, from + 65536, HIGHEST - 1, HIGHEST};
        return Arrays.stream(some).filter(n -> n < from || n > to).toArray();
    }

    static void rightText(String text, int orders) {
        JumpFence x = new JumpFence();
        put(x, text);
        due("load() of '" + text + "'", x::load, orders);
        due("fault() of '" + text + "'", x::fault, NONE);
    }

    static void wrongText(String text, int at) {
        JumpFence x = new JumpFence();
        put(x, text);
        argument("load() of '" + text + "'", x::load);
        due("fault() of '" + text + "'", x::fault, at);
        due("count(0) behind '" + text + "'", () -> x.count(0), 0);
    }

    /** An object with one POWER and one HARM. */
    static JumpFence broken(int cells, boolean row, int harm, String... parts) {
        JumpFence x = with(parts);
        x.power(cells, row);
        x.harm(harm);
        return x;
    }

    static void closedIs(String text, int cells, boolean row, long want) {
        JumpFence x = broken(cells, row, 0, text);
        due("closed(0) in '" + text + "'", () -> x.closed(0), want);
    }

    static JumpFence graded(JumpFence x, int grade, int... orders) {
        for (int order : orders) {
            x.grade(order, grade);
        }
        return x;
    }
}
