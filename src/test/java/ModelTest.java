import java.util.Random;
import java.util.function.Supplier;

/** Random runs of calls, made from fixed seeds, answered by the class and by the slow model alike. */
public final class ModelTest {
    private static int wrong = 0;
    private static final int[] ANSWERS = new int[12];

    private final Random random;
    private final long seed;
    private final JumpFence x = new JumpFence();
    private final Model m = new Model();
    private final int cells;
    private final int size;
    private final StringBuilder log = new StringBuilder();

    private ModelTest(long seed) {
        this.seed = seed;
        random = new Random(seed);
        cells = 1 + random.nextInt(4);
        size = random.nextInt(8) == 0 ? 40 : 1 + random.nextInt(random.nextInt(4) == 0 ? 40 : 14);
    }

    public static void main(String[] args) {
        int runs = args.length > 1 ? Integer.parseInt(args[1]) : 300;
        long first = args.length > 2 ? Long.parseLong(args[2]) : 0;
        for (long seed = first; seed < first + runs && wrong < 5; seed++) {
            new ModelTest(seed).play();
        }
        if (args.length > 1) {
            System.out.println("reach 0/1/2: " + ANSWERS[0] + " " + ANSWERS[1] + " " + ANSWERS[2]
                    + ", run ends 0/1/2/3: " + ANSWERS[3] + " " + ANSWERS[4] + " " + ANSWERS[5] + " " + ANSWERS[6]
                    + ", least none/0/more: " + ANSWERS[7] + " " + ANSWERS[8] + " " + ANSWERS[9]
                    + ", late none/some: " + ANSWERS[10] + " " + ANSWERS[11]);
        }
        System.exit(wrong == 0 ? 0 : 1);
    }

    private static String answer(Supplier<Object> call) {
        try {
            return String.valueOf(call.get());
        } catch (RuntimeException e) {
            Class<?> c = e.getClass();
            return "throws." + c.getSimpleName();
        }
    }

    private String same(String call, Supplier<Object> mine, Supplier<Object> model) {
        String got = answer(mine);
        String due = answer(model);
        log.append(call).append(" -> ").append(due).append('\n');
        if (!got.equals(due)) {
            wrong++;
            System.out.println("seed " + seed + "\n" + log + "but answered " + got);
        }
        return due;
    }

    private int pick(int n) {
        return random.nextInt(n);
    }

    private String cellText() {
        return "c" + (pick(40) == 0 ? pick(18) : pick(cells));
    }

    private String atom() {
        return pick(2) == 0 ? cellText() : "" + (pick(6) == 0 ? pick(1002) : pick(6));
    }

    private String place() {
        return "" + (pick(25) == 0 ? pick(42) : pick(size));
    }

    private String one(String... texts) {
        return texts[pick(texts.length)];
    }

    private String kind() {
        return pick(3) == 0 ? " kind " + pick(pick(30) == 0 ? 5 : 2) : "";
    }

    private String body() {
        switch (pick(17)) {
            case 0: return "set " + cellText() + " = " + atom() + one("", "+", " - ", "*") + "";
            case 1: return "set " + cellText() + "=" + cellText();
            case 2: return "set " + cellText() + " = " + atom() + one("+", " - ", "*") + atom();
            case 3: case 4: case 5: return "point " + cellText() + " at " + place();
            case 6: return "jump " + place();
            case 7: case 8: return "if " + atom() + one("<", " > ", "=") + atom() + " jump " + place();
            case 9: return "through " + cellText() + kind();
            case 10: case 11: return "by " + cellText() + kind();
            case 12: return "call " + place();
            case 13: return "back";
            case 14: case 15: return "door " + atom();
            default: return pick(2) == 0 ? "stop" : "back";
        }
    }

    private String cleanBody() {
        String b = body();
        while (b.endsWith("+") || b.endsWith("- ") || b.endsWith("*")) {
            b = body();
        }
        return b;
    }

    private String text(int orders) {
        StringBuilder t = new StringBuilder();
        for (int k = 0; k < orders; k++) {
            t.append(k == 0 ? "" : ";");
            t.append(pick(4) == 0 ? "entry " + pick(pick(40) == 0 ? 5 : 2) + one(" ", "") : "");
            t.append(pick(60) == 0 ? body() : cleanBody());
        }
        if (pick(12) == 0) {
            spoil(t);
        }
        return t.toString();
    }

    private void spoil(StringBuilder t) {
        int at = pick(t.length() + 1);
        switch (pick(4)) {
            case 0: t.insert(at, one(" ", "  ", ";", "c", "7", "0", "stop", "=", "A", "\u00e9", "-")); break;
            case 1: t.setLength(at); break;
            case 2: if (at < t.length()) { t.deleteCharAt(at); } break;
            default: t.append(one(";", " ", "; ", " 1", "x"));
        }
    }

    private void feedText(String text) {
        int to = Math.min(text.length(), 400);
        for (int k = 0; k < to; k += 20) {
            int[] n = new int[5];
            for (int j = 0; j < 20; j++) {
                int b = k + j < to ? text.charAt(k + j) : pick(256);
                n[j / 4] |= b << 24 - 8 * (j % 4);
            }
            feed(n);
        }
        same("end " + to, () -> x.end(to), () -> m.end(to));
        log.append("  text: ").append(text, 0, to).append('\n');
    }

    private void feed(int[] n) {
        same("feed", () -> x.feed(n[0], n[1], n[2], n[3], n[4]), () -> m.feed(n));
    }

    private void load(int orders) {
        feedText(text(orders));
        same("load", x::load, m::load);
        same("fault", x::fault, m::fault);
    }

    private void play() {
        int left = size;
        while (left > 0) {
            int part = Math.min(left, 1 + pick(16));
            load(part);
            left -= part;
        }
        for (int k = pick(4); k > 0; k--) {
            definePower();
        }
        for (int k = pick(4); k > 0; k--) {
            defineHarm();
        }
        for (int k = 0; k < 100 && wrong < 5; k++) {
            call();
        }
        for (int k = 0; k < 10 && wrong < 5; k++) {
            int what = k;
            same("count " + what, () -> x.count(what), () -> m.count(what));
        }
    }

    private void definePower() {
        int c = pick(30) == 0 ? random.nextInt() : pick(1 << cells);
        boolean row = pick(2) == 0;
        same("power " + c + row, () -> x.power(c, row), () -> m.power(c, row));
    }

    private void defineHarm() {
        int w = pick(12) == 0 ? pick(1010) - 5 : pick(6);
        same("harm " + w, () -> x.harm(w), () -> m.harm(w));
    }

    private int someOrder() {
        int n = m.orders.size();
        return pick(50) == 0 ? wild() : pick(20) == 0 || n == 0 ? pick(44) - 2 : pick(n);
    }

    private int someOf(int n) {
        return pick(50) == 0 ? wild() : pick(20) == 0 || n == 0 ? pick(n + 4) - 2 : pick(n);
    }

    private int wild() {
        int[] ends = {Integer.MIN_VALUE, Integer.MAX_VALUE, Integer.MIN_VALUE + 1, -40, 64, 1 << 16, 300, 299};
        return ends[pick(ends.length)];
    }

    private void call() {
        boolean b = pick(3) != 0;
        int o = someOrder();
        int i = pick(30) == 0 ? wild() : pick(9) - 1;
        int p = someOf(m.powers.size());
        int h = someOf(m.harms.size());
        switch (pick(32)) {
            case 0: same("order " + o + " " + i, () -> x.order(o, i), () -> m.order(o, i)); break;
            case 1: case 2: case 3: case 4: {
                int j = jump();
                int g = pick(40) == 0 ? wild() : pick(25) == 0 ? pick(7) - 1 : pick(4);
                same("grade " + j + " " + g, () -> x.grade(j, g), () -> m.grade(j, g));
                break;
            }
            case 5: {
                int g = pick(5);
                int n = pick(4) == 0 ? pick(104) - 2 : 1 + pick(5);
                same("ticks " + g + " " + n, () -> { x.ticks(g, n); return 0; }, () -> { m.ticks(g, n); return 0; });
                break;
            }
            case 6: same("landings " + o + b, () -> x.landings(o, b), () -> m.landings(o, b)); break;
            case 7: {
                int j = jump();
                same("landings " + j + b, () -> x.landings(j, b), () -> m.landings(j, b));
                same("lets " + j, () -> x.lets(j), () -> m.lets(j));
                break;
            }
            case 8: {
                int c = someOf(16);
                int d = pick(cells);
                same("holds " + c, () -> x.holds(c), () -> m.holds(c));
                same("odd " + c, () -> x.odd(c), () -> m.odd(c));
                same("holds " + d, () -> x.holds(d), () -> m.holds(d));
                same("odd " + d, () -> x.odd(d), () -> m.odd(d));
                break;
            }
            case 9: case 10: bend(); break;
            case 11: if (pick(3) == 0) { same("straight", x::straight, m::straight); } break;
            case 12: case 13: case 14: case 15: runs(b); break;
            case 16: same("step " + b + i, () -> x.step(b, i), () -> m.step(b, i)); break;
            case 17: same("said " + b + i, () -> x.said(b, i), () -> m.said(b, i)); break;
            case 18: {
                int c = someOf(pick(2) == 0 ? 16 : cells);
                same("cell " + b + c, () -> x.cell(b, c), () -> m.cell(b, c));
                break;
            }
            case 19: if (pick(4) == 0) { definePower(); } else if (pick(3) == 0) { defineHarm(); } break;
            case 20: case 21: {
                String r = same("reach " + p + " " + h, () -> x.reach(p, h), () -> m.reach(p, h));
                ANSWERS[0] += r.equals("0") ? 1 : 0;
                ANSWERS[1] += r.equals("1") ? 1 : 0;
                ANSWERS[2] += r.equals("2") ? 1 : 0;
                break;
            }
            case 22: same("row " + p + " " + h + " " + i, () -> x.row(p, h, i), () -> m.row(p, h, i)); break;
            case 23: same("closed " + p, () -> x.closed(p), () -> m.closed(p)); break;
            case 24: if (pick(4) == 0) { least(p, h); } break;
            case 25: same("marks", x::marks, m::marks); break;
            case 26: {
                int n = pick(6) == 0 ? pick(20) - 1 : 1 + pick(4);
                same("joined " + n, () -> x.joined(n), () -> m.joined(n));
                break;
            }
            case 27: fence(p); break;
            case 28: {
                int n = pick(6) == 0 ? pick(24) - 1 : 1 + pick(6);
                String r = same("late " + n, () -> x.late(n), () -> m.late(n));
                ANSWERS[r.equals("-1") ? 10 : 11]++;
                break;
            }
            case 29: judge(); break;
            case 30: other(); break;
            default: same("count " + i, () -> x.count(i), () -> m.count(i));
        }
    }

    private int jump() {
        for (int k = 0; k < 30; k++) {
            int j = someOrder();
            if (j >= 0 && j < m.orders.size() && m.orders.get(j).jump()) {
                return j;
            }
        }
        return someOrder();
    }

    private void bend() {
        int s = pick(40) == 0 ? wild() : pick(25) == 0 ? pick(310) - 4 : pick(7);
        int c = pick(40) == 0 ? wild() : pick(25) == 0 ? pick(20) - 1 : pick(4) == 0 ? 16 : pick(cells);
        int n = pick(8) == 0 ? wild() : pick(8) == 0 ? random.nextInt() : pick(size + 2) - 1;
        same("bend " + s + " " + c + " " + n, () -> x.bend(s, c, n), () -> m.bend(s, c, n));
    }

    private void runs(boolean b) {
        for (int k = -1; k < 9; k++) {
            int what = k;
            String r = same("run " + b + what, () -> x.run(b, what), () -> m.run(b, what));
            if (k == 0) {
                ANSWERS[3 + Integer.parseInt(r)]++;
            }
        }
    }

    private void least(int p, int h) {
        String r = same("least " + p + " " + h, () -> x.least(p, h, -1), () -> m.least(p, h, -1));
        ANSWERS[r.equals("-1") ? 7 : r.equals("0") ? 8 : 9]++;
        int o = jump();
        same("least " + p + " " + h + " " + o, () -> x.least(p, h, o), () -> m.least(p, h, o));
    }

    private void fence(int p) {
        int a = someOrder();
        int b = someOrder();
        int from = pick(4) == 0 ? a : Math.min(a, b);
        int to = pick(4) == 0 ? b : Math.max(a, b);
        long doors = random.nextLong() & random.nextLong();
        same("fence " + from + " " + to + " " + doors + " " + p,
                () -> x.fence(from, to, doors, p), () -> m.fence(from, to, doors, p));
    }

    private void judge() {
        StringBuilder t = new StringBuilder();
        int n = pick(30);
        for (int k = 0; k < n; k++) {
            int s = m.step(true, k);
            t.append((char) (s < 0 ? pick(2) * pick(256) : pick(40) == 0 ? pick(256) : s));
            if (s < 0) {
                break;
            }
        }
        feedText(t.toString());
        same("judge", x::judge, m::judge);
    }

    private void other() {
        switch (pick(6)) {
            case 0: same("image", () -> { x.image(); return 0; }, () -> { m.image(); return 0; }); break;
            case 1: case 2: same("back", x::back, m::back); break;
            case 3: {
                int n = pick(5) == 0 ? wild() : pick(30) - 3;
                same("end " + n, () -> x.end(n), () -> m.end(n));
                break;
            }
            case 4: {
                load(1 + pick(3));
                break;
            }
            default: feed(new int[] {random.nextInt(), random.nextInt(), 32, -1, 7});
        }
    }
}
