/** RUNS: where they begin, how they end, and BENDS. */
final class RunEdges extends Edges {
    /** Does 299 or 300 ORDERS, then comes to the one behind it. */
    private static final String AFTER_299 = "jump 1;set c0 = c0 + 1;if c0 < 149 jump 1;";
    private static final String AFTER_300 = "jump 1;jump 2;set c0 = c0 + 1;if c0 < 149 jump 2;";

    static void all() {
        begin();
        cellsAndPlaces();
        rows();
        doorsAndOthers();
        ends();
        sums();
        notDone();
        bends();
        bendsOfTheRow();
    }

    private static void begin() {
        sentence("A RUN begins at ORDER 0, all CELLS 0, no PLACES kept.");
        JumpFence x = with("stop");
        steps(x, false, 0);
        for (int k = 0; k < 16; k++) {
            int cell = k;
            due("cell(false, " + k + ")", () -> x.cell(false, cell), 0);
        }
        // nothing is left of an earlier RUN, or of a row that was tried
        JumpFence y = broken(1, true, 5, "set c0 = c0 + 1;call 2;call 3;call 4;door c0;stop;back");
        y.bend(2, 3, 9);
        for (int k = 0; k < 4; k++) {
            runs(y, k % 2 == 0, 0, 6, 0, 5, 1, 0);
            due("said(false, 0)", () -> y.said(false, 0), 1);
            due("cell(false, 3)", () -> y.cell(false, 3), 0);
            due("reach(0, 0)", () -> y.reach(0, 0), 1);
            due("late(1)", () -> y.late(1), NONE);
        }
        JumpFence z = broken(0, false, 0, "door c0;set c0 = 7;door c0;stop");
        due("said(false, 1)", () -> z.said(false, 1), 7);
        due("reach(0, 0)", () -> z.reach(0, 0), 1);
    }

    private static void cellsAndPlaces() {
        sentence("set: the CELL is the SUM. point: the CELL is the number of the PLACE. jump, if (if it is so): on at"
                + " the PLACE. through: on at the PLACE whose number the CELL is.");
        JumpFence x = with("set c0 = 999;set c15 = 2 - 5;point c1 at 39;point c2 at 0;stop");
        due("cell(false, 0)", () -> x.cell(false, 0), 999);
        due("cell(false, 15)", () -> x.cell(false, 15), -3);
        due("cell(false, 1)", () -> x.cell(false, 1), 39);
        due("cell(false, 2)", () -> x.cell(false, 2), 0);
        steps(with("jump 2;stop;stop"), false, 0, 2);
        steps(with("jump 2;stop;jump 1"), false, 0, 2, 1);
        due("jump to itself", () -> with("jump 0").run(false, 1), 300);
        String[] signs = {"<", ">", "="};
        for (int s = 0; s < 3; s++) {
            for (int a = 4; a <= 6; a++) {
                boolean so = s == 0 ? a < 5 : s == 1 ? a > 5 : a == 5;
                String condition = a + signs[s] + "5";
                steps(with("if " + condition + " jump 2;stop;stop"), false, 0, so ? 2 : 1);
                steps(with("set c3 = " + a + ";if c3" + signs[s] + "5 jump 3;stop;stop"), false, 0, 1, so ? 3 : 2);
            }
        }
        // numbers far apart: their difference wraps around
        JumpFence far = with("if c0 < c1 jump 2;stop;if c1 > c0 jump 4;stop;if c0 = c1 jump 1;stop");
        far.bend(0, 0, LOWEST);
        far.bend(0, 1, HIGHEST);
        steps(far, true, 0, 2, 4, 5);
        steps(with("point c0 at 2;through c0;stop"), false, 0, 1, 2);
        runs(with("through c0"), false, 2, 300, 0, 0, 0, 300);
        for (int place : outside(0, 1)) {
            JumpFence away = with("through c0;stop");
            away.bend(0, 0, place);
            runs(away, true, 3, 1, 0, place, 0, 1, NONE, NONE);
        }
    }

    private static void rows() {
        sentence("call, by: the number of the next ORDER is put on the ROW of PLACES (at most 8) and on a SECOND ROW,"
                + " then likewise. back: the last one of both ROWS is taken off; on at that of the ROW.");
        steps(with("point c0 at 4;by c0;stop;stop;back"), false, 0, 1, 4, 2);
        steps(with("call 2;stop;back"), false, 0, 2, 1);
        String eight = "call 1;call 2;call 3;call 4;call 5;call 6;call 7;call 8;";
        runs(with(eight + "stop"), false, 0, 9, 0, 8);
        runs(with(eight + "call 9;stop"), false, 3, 8, 0, 8);
        runs(with(eight + "by c0;stop"), false, 3, 8, 0, 8, 0, 0);
        runs(with("by c0"), false, 3, 8, 0, 0, 0, 8);
        // one that is taken off leaves room: 100 calls, never two at once
        runs(with("call 2;jump 0;back"), false, 2, 300, 0, 0, 0, 100);
        // the eighth one is the first that is gone back to, and the row ends where it began
        JumpFence deep = with("set c0 = c0 + 1;if c0 > 8 jump 4;call 0;stop;back");
        runs(deep, false, 0, 28, 0, 3, 0, 1);
        JumpFence nested = with("call 3;door 1;stop;call 6;door 2;back;door 3;back");
        steps(nested, false, 0, 3, 6, 7, 4, 5, 1, 2);
        graded(nested, 3, 5, 7);
        runs(nested, false, 0, 8, 8, 2, 3, 2);
        // the SECOND ROW loses its last one, too, when the ROW was bent
        JumpFence bent = with("call 3;stop;stop;call 5;back;back;back");
        bent.bend(2, 16, 6);
        graded(bent, 3, 6);
        steps(bent, true, 0, 3, 5, 6, 1);
        due("run(true, 2)", () -> bent.run(true, 2), 4);
        // what the ROW says counts, not the SECOND ROW
        JumpFence other = with("call 3;stop;stop;back");
        other.bend(1, 16, 2);
        steps(other, true, 0, 3, 2);
        // a call at the end puts a number that is no ORDER
        runs(with("jump 2;back;call 1"), false, 3, 3, 0, 3, 0, 1);
    }

    private static void doorsAndOthers() {
        sentence("door: the ATOM is said. stop: the end. All others: on at the next ORDER. JUMPS are through, by and"
                + " back.");
        JumpFence x = with("door 0;door 999;door c0;set c0 = 2 - 9;point c1 at 3;if 1 > 2 jump 0;door c0;stop;door 1");
        steps(x, false, 0, 1, 2, 3, 4, 5, 6, 7);
        int[] said = {0, 999, 0, -7};
        for (int k = 0; k < said.length; k++) {
            int i = k;
            due("said(false, " + k + ")", () -> x.said(false, i), said[k]);
        }
        due("run(false, 4)", () -> x.run(false, 4), 4);
        JumpFence bent = with("door c0;door c1;stop");
        bent.bend(0, 0, LOWEST);
        bent.bend(0, 1, HIGHEST);
        due("said(true, 0)", () -> bent.said(true, 0), LOWEST);
        due("said(true, 1)", () -> bent.said(true, 1), HIGHEST);
        String[] words = {"set c1 = 1", "point c1 at 1", "jump 1", "if 1 < 2 jump 1", "through c1", "call 1", "by c1",
            "back", "door 1", "stop"};
        for (int k = 0; k < words.length; k++) {
            JumpFence one = with(words[k]);
            boolean jump = k == 4 || k == 6 || k == 7;
            due("count(1) of " + words[k], () -> one.count(1), jump ? 1 : 0);
            due("grade(0, 1) of " + words[k], () -> one.grade(0, 1), jump ? true : "throws.ClassCastException");
        }
    }

    private static void ends() {
        sentence("It ends, asked in this order ahead of each ORDER: 2 SPENT: 300 were done; 3 by a TRAP: there is no"
                + " such ORDER, a SUM would be above 99999 or below - 99999, a 9th PLACE, back without one; 1 at a"
                + " GUARD; and 0 behind stop.");
        // stop is the 300th, or would be the 301st
        runs(with(AFTER_299 + "stop"), false, 0, 300, 0, 3);
        runs(with(AFTER_300 + "stop"), false, 2, 300, 0, 4);
        // SPENT is asked ahead of each TRAP
        String[] traps = {"", "set c1 = 999 * 999", "back"};
        for (String trap : traps) {
            runs(behind(AFTER_299, trap), 3, 299, 3);
            runs(behind(AFTER_300, trap), 2, 300, 4);
        }
        // and ahead of a GUARD
        runs(graded(with(AFTER_299 + "through c1"), 1, 3), 1, 299, 3);
        runs(graded(with(AFTER_300 + "through c1"), 1, 4), 2, 300, 4);
        // no such ORDER
        runs(new JumpFence(), false, 3, 0, 0, 0, 0, 0, NONE, NONE);
        runs(with("door 1"), false, 3, 1, 0, 1, 1, 0, NONE, NONE);
        runs(with("jump 1"), false, 3, 1, 0, 1);
        runs(with("jump 39"), false, 3, 1, 0, 39);
        runs(with("if 1 = 1 jump 39"), false, 3, 1, 0, 39);
        runs(with("call 39"), false, 3, 1, 0, 39);
        runs(with(many("set c0 = 1", 36), many("door 1", 4)), false, 3, 40, 0, 40, 4);
        // a TRAP is asked ahead of a GUARD: a 9th PLACE, back without one
        JumpFence ninth = graded(with("entry 0 by c0"), 1, 0);
        runs(ninth, false, 3, 8, 8, 0, 0, 8, NONE, NONE);
        ninth.bend(8, 0, 1);
        runs(ninth, true, 3, 8, 8, 0, 0, 8, NONE, NONE);
        ninth.bend(7, 0, 1);
        runs(ninth, true, 1, 7, 7, 0, 0, 7, 1, 1);
        for (int grade = 0; grade <= 3; grade++) {
            runs(graded(with("back;call 0;stop"), grade, 0), false, 3, 0, 0, 0, 0, 0, NONE, NONE);
            runs(graded(with("call 2;back;back"), grade, 1), false, 3, 2, 0, 1, 0, 1, NONE, NONE);
        }
    }

    /** How it ends, STEPS, and what would be next, of ORDERS that have no TICKS. */
    private static void runs(JumpFence x, int how, int steps, int next) {
        runs(x, false, how, steps, 0, next);
    }

    private static JumpFence behind(String text, String last) {
        return with(last.isEmpty() ? text.substring(0, text.length() - 1) : text + last);
    }

    private static void sum(int a, String op, int b, boolean traps) {
        JumpFence x = with("set c2 = c0 " + op + " c1;stop");
        x.bend(0, 0, a);
        x.bend(0, 1, b);
        due(a + " " + op + " " + b + " ends", () -> x.run(true, 0), traps ? 3 : 0);
        due(a + " " + op + " " + b + " STEPS", () -> x.run(true, 1), traps ? 0 : 2);
        int sum = op.equals("+") ? a + b : op.equals("-") ? a - b : a * b;
        due(a + " " + op + " " + b + " is", () -> x.cell(true, 2), traps ? 0 : sum);
    }

    private static void sums() {
        // of the same sentence: the bounds of a SUM, and numbers whose SUM wraps around
        sum(99999, "+", 0, false);
        sum(99999, "+", 1, true);
        sum(-99999, "+", 0, false);
        sum(-99999, "+", -1, true);
        sum(-99999, "-", 0, false);
        sum(-99999, "-", 1, true);
        sum(99999, "-", 0, false);
        sum(99999, "-", -1, true);
        sum(33333, "*", 3, false);
        sum(50000, "*", 2, true);
        sum(-33333, "*", 3, false);
        sum(-50000, "*", 2, true);
        sum(50000, "*", -2, true);
        sum(-33333, "*", -3, false);
        sum(100000, "-", 1, false);
        sum(-100000, "+", 1, false);
        sum(65536, "*", 65536, true);
        sum(HIGHEST, "+", 1, true);
        sum(HIGHEST, "+", HIGHEST, true);
        sum(LOWEST, "-", 1, true);
        sum(LOWEST, "-", HIGHEST, true);
        sum(LOWEST, "+", LOWEST, true);
        sum(LOWEST, "*", LOWEST, true);
        sum(LOWEST, "*", HIGHEST, true);
        sum(LOWEST, "*", -1, true);
        sum(LOWEST, "*", 0, false);
        sum(HIGHEST, "-", HIGHEST, false);
        runs(with("set c0 = 999 * 100;set c0 = c0 + 99;set c0 = c0 + 1"), 3, 2, 2);
        runs(with("set c0 = 0 - 999;set c0 = c0 * 100;set c0 = c0 - 99;set c0 = c0 - 1"), 3, 3, 3);
        // a SUM of one ATOM alone
        int[] bounds = {99999, 100000, -99999, -100000, LOWEST, HIGHEST};
        for (int n : bounds) {
            JumpFence x = with("set c1 = c0;stop");
            x.bend(0, 0, n);
            due("set c1 = " + n, () -> x.run(true, 0), Math.abs((long) n) > 99999 ? 3 : 0);
        }
    }

    private static void notDone() {
        sentence("(The ORDER of a TRAP or GUARD is not done; stop is. STEPS: how many were done.)");
        JumpFence trap = with("set c1 = 5;set c1 = 999 * 999;stop");
        runs(trap, 3, 1, 1);
        steps(trap, false, 0);
        due("cell(false, 1)", () -> trap.cell(false, 1), 5);
        JumpFence guard = graded(with("door 1;by c0;stop"), 1, 1);
        runs(guard, false, 1, 1, 0, 1, 1, 0, NONE, 0);
        steps(guard, false, 0);
        JumpFence stop = with("stop");
        runs(stop, 0, 1, 0);
        steps(stop, false, 0);
        due("STEPS of none", () -> new JumpFence().run(false, 1), 0);
        due("STEPS of all", () -> with("jump 0").run(false, 1), 300);
    }

    private static void bends() {
        sentence("BENDS (at most 8, told by hand, numbered from 0 on): with so many STEPS done (0 to 299), ahead of what"
                + " is asked then, a CELL (0 to 15) gets a number, or (16) the last one of the ROW (not of the SECOND"
                + " ROW; nothing without one).");
        JumpFence x = with("jump 1;door c0;jump 1");
        for (int k = 0; k < 8; k++) {
            due("bend(299, 15, 0)", () -> x.bend(299, 15, 0), k);
        }
        full("bend(0, 0, 0), a 9th", () -> x.bend(0, 0, 0));
        due("count(3)", () -> x.count(3), 8);
        x.straight();
        // ahead of the 1st and of the 300th ORDER
        x.bend(0, 0, 5);
        x.bend(299, 0, 6);
        due("said(true, 0)", () -> x.said(true, 0), 5);
        due("said(true, 148)", () -> x.said(true, 148), 5);
        due("said(true, 149)", () -> x.said(true, 149), 6);
        due("said(true, 150)", () -> x.said(true, 150), 1000000);
        due("said(false, 149)", () -> x.said(false, 149), 0);
        for (int k = 0; k < 16; k++) {
            JumpFence y = with("stop");
            y.bend(0, k, k - 7);
            for (int j = 0; j < 16; j++) {
                int cell = j;
                due("cell(true, " + j + ")", () -> y.cell(true, cell), j == k ? k - 7 : 0);
                due("cell(false, " + j + ")", () -> y.cell(false, cell), 0);
            }
        }
        for (int n : new int[] {LOWEST, HIGHEST, -1, 1000000}) {
            JumpFence y = with("stop");
            y.bend(0, 3, n);
            due("cell(true, 3)", () -> y.cell(true, 3), n);
        }
        // ahead of what is asked: a TRAP comes or stays away by it, and CELLS are bent at a TRAP, too
        JumpFence trap = with("set c1 = c0 + 1;stop");
        trap.bend(0, 0, 99999);
        runs(trap, true, 3, 0, 0, 0);
        JumpFence none = new JumpFence();
        none.bend(0, 0, 7);
        due("cell(true, 0) without ORDERS", () -> none.cell(true, 0), 7);
        JumpFence saved = with("set c0 = 999;set c0 = c0 * c0;stop");
        saved.bend(1, 0, 316);
        runs(saved, true, 0, 3, 0, 2);
        // nothing is asked behind stop
        JumpFence late = with("door 1;stop");
        late.bend(2, 0, 7);
        due("cell(true, 0) behind stop", () -> late.cell(true, 0), 0);
        late.bend(1, 0, 8);
        due("cell(true, 0) at stop", () -> late.cell(true, 0), 8);
    }

    private static void bendsOfTheRow() {
        // of the same sentence: the last one of the ROW
        JumpFence none = with("call 2;stop;back");
        none.bend(0, 16, 0);
        runs(none, true, 0, 3, 0, 1);
        JumpFence last = with("call 3;stop;stop;call 5;stop;back;back");
        last.bend(2, 16, 6);
        steps(last, true, 0, 3, 5, 6, 1);
        JumpFence second = graded(with("call 3;stop;stop;back"), 3, 3);
        second.bend(1, 16, 2);
        runs(second, true, 1, 1, 0, 3, 0, 0, 0, 2);
        JumpFence none2 = with("call 2;door 1;back;stop");
        none2.bend(2, 16, 3);
        steps(none2, true, 0, 2, 1);
        JumpFence eighth = with("set c0 = c0 + 1;if c0 > 8 jump 4;call 0;stop;back");
        eighth.bend(26, 16, 39);
        runs(eighth, true, 3, 27, 0, 39, 0, 1);

        sentence("Of several at once by their numbers.");
        JumpFence x = with("door c0;door c0;stop");
        x.bend(1, 0, 7);
        x.bend(0, 0, 5);
        x.bend(0, 0, 4);
        x.bend(1, 0, 3);
        due("said(true, 0)", () -> x.said(true, 0), 4);
        due("said(true, 1)", () -> x.said(true, 1), 3);
        JumpFence y = with("call 3;stop;stop;back");
        y.bend(1, 16, 2);
        y.bend(1, 16, 3);
        y.bend(1, 16, 2);
        steps(y, true, 0, 3, 2);
    }
}
