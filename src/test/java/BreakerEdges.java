/** THE BREAKER: POWERS, HARMS, where one MAY come to, rows that are tried, and the least GRADES. */
final class BreakerEdges extends Edges {
    private static final int ALL_CELLS = 65535;

    static void all() {
        powersAndHarms();
        mayOfOthers();
        mayOfCells();
        mayOfBack();
        doors();
        notReached();
        rowsOfOrders();
        triedAtIf();
        triedAtJumps();
        reached();
        closed();
        least();
        leastOfSix();
    }

    private static void powersAndHarms() {
        sentence("THE BREAKER: POWERS (at most 6): a set of CELLS, and whether the ROW, too.");
        JumpFence x = new JumpFence();
        for (int k = 0; k < 6; k++) {
            int cells = k == 0 ? 0 : ALL_CELLS;
            due("power(" + cells + ", true)", () -> x.power(cells, true), k);
        }
        full("power(0, false), a 7th", () -> x.power(0, false));
        due("count(4)", () -> x.count(4), 6);
        // each CELL alone, and the ROW alone
        for (int k = 0; k < 16; k++) {
            String text = "through c" + k + ";door 5";
            reaches(text, 1 << k, false, 5, 1);
            reaches(text, ALL_CELLS - (1 << k), true, 5, 0);
            reaches("by c" + k + ";stop;door 5", 1 << k, false, 5, 1);
        }
        reaches("call 2;stop;back;door 5", 0, true, 5, 1);
        reaches("call 2;stop;back;door 5", ALL_CELLS, false, 5, 0);

        sentence("HARMS (at most 8): a number that is said.");
        for (int k = 0; k < 8; k++) {
            int word = k * 142;
            due("harm(" + word + ")", () -> x.harm(word), k);
        }
        full("harm(1), a 9th", () -> x.harm(1));
        due("count(5)", () -> x.count(5), 8);
        JumpFence y = with("door 0;door 142;door 994;stop");
        y.power(0, false);
        for (int k = 0; k < 8; k++) {
            int harm = k;
            y.harm(k * 142);
            due("reach(0, " + k + ")", () -> y.reach(0, harm), k < 2 || k == 7 ? 1 : 0);
        }
    }

    private static void mayOfOthers() {
        sentence("MAY: from an ORDER on: next ones as above, but: if: both ways (just one, if both ATOMS are NUMBERS);"
                + " call: its PLACE;");
        closedIs("set c0 = 1;point c0 at 0;door 1;jump 5;stop;stop", 0, false, 47);
        closedIs("door 1", 0, false, 1);
        closedIs("jump 1;set c0 = 1", 0, false, 3);
        closedIs("jump 0;stop", 0, false, 1);
        for (String sign : new String[] {"<", ">", "="}) {
            closedIs("if c0" + sign + "0 jump 2;stop;stop", 0, false, 7);
            closedIs("if 0" + sign + "c0 jump 2;stop;stop", 0, false, 7);
            closedIs("if c0" + sign + "c0 jump 2;stop;stop", 0, false, 7);
            closedIs("if c15" + sign + "c0 jump 2;stop;stop", ALL_CELLS, true, 7);
            for (int a = 4; a <= 6; a++) {
                boolean so = sign.equals("<") ? a < 5 : sign.equals(">") ? a > 5 : a == 5;
                closedIs("if " + a + sign + "5 jump 2;stop;stop", ALL_CELLS, true, so ? 5 : 3);
            }
        }
        closedIs("if 999 = 999 jump 2;stop;stop", 0, false, 5);
        closedIs("if c0 = 1 jump 39;stop", 0, false, 3);
        closedIs("if 1 = 1 jump 39;stop", 0, false, 1);
        closedIs("stop;if c0 = 1 jump 0", 0, false, 1);
        closedIs("jump 1;if c0 = 1 jump 0", 0, false, 3);
        // call: where it lands, not behind it
        closedIs("call 2;stop;stop", ALL_CELLS, true, 5);
        closedIs("call 39;stop", ALL_CELLS, true, 1);
        closedIs("call 0;stop", ALL_CELLS, true, 1);
    }

    /** CLOSED by the ROW alone and by all CELLS, for each GRADE of ORDER 1. */
    private static void closedByGrade(String text, long[] byRow, long[] byCells) {
        for (int grade = 0; grade <= 3; grade++) {
            int g = grade;
            JumpFence x = graded(with(text), grade, 1);
            x.power(0, true);
            x.power(ALL_CELLS, false);
            due("closed(0) of GRADE " + grade + " in '" + text + "'", () -> x.closed(0), byRow[g]);
            due("closed(1) of GRADE " + grade + " in '" + text + "'", () -> x.closed(1), byCells[g]);
        }
    }

    private static void mayOfCells() {
        sentence("through, by: with the CELL in the POWER what it LETS, else what the CELL may hold (all ORDERS, if it is"
                + " ODD), of that what it LETS;");
        for (String word : new String[] {"through", "by"}) {
            // KIND lets 2, FLOW lets 3
            closedByGrade("point c0 at 3;" + word + " c0 kind 1;entry 1 stop;stop;stop",
                    new long[] {11, 3, 11, 11}, new long[] {31, 7, 11, 11});
            // KIND and FLOW let 3
            closedByGrade("point c0 at 3;" + word + " c0 kind 1;stop;entry 1 stop;stop",
                    new long[] {11, 11, 11, 11}, new long[] {31, 11, 11, 11});
            // what is ODD
            closedByGrade("set c0 = 4;" + word + " c0 kind 1;entry 1 stop;stop;stop",
                    new long[] {31, 7, 7, 7}, new long[] {31, 7, 7, 7});
            // what holds nothing, and what holds what is no ORDER
            closedByGrade("door 1;" + word + " c0;entry 0 stop;stop",
                    new long[] {3, 3, 3, 3}, new long[] {15, 7, 3, 3});
            closedByGrade("point c0 at 39;" + word + " c0;entry 0 stop;stop",
                    new long[] {3, 3, 3, 3}, new long[] {15, 7, 3, 3});
        }
        // another CELL in the POWER is no help
        closedIs("through c1;stop", ALL_CELLS - 2, true, 1);
        closedIs("through c1;stop", 2, false, 3);
    }

    private static void mayOfBack() {
        sentence("back: with the ROW in the POWER and a GRADE below 3 what it LETS, else all ORDERS behind a call or by,"
                + " of that what it LETS; none from stop, or to what is no ORDER.");
        String text = "call 4;stop;call 5;stop;back;back";
        long[] row = {63, 27, 19, 19};
        long[] none = {27, 27, 19, 19};
        for (int grade = 0; grade <= 3; grade++) {
            JumpFence x = graded(with(text), grade, 4);
            x.power(0, true);
            x.power(ALL_CELLS, true);
            x.power(0, false);
            x.power(ALL_CELLS, false);
            for (int k = 0; k < 4; k++) {
                int power = k;
                long want = k < 2 ? row[grade] : none[grade];
                due("closed(" + k + ") of GRADE " + grade, () -> x.closed(power), want);
            }
        }
        closedIs("point c0 at 3;by c0;stop;back", 0, false, 15);
        closedIs("back;stop", 0, false, 1);
        closedIs("back;stop", 0, true, 3);
        closedIs("call 1;back", 0, false, 3);
        closedIs("jump 2;stop;back;call 2", 0, false, 5);
        closedIs("stop;stop", ALL_CELLS, true, 1);
        closedIs("jump 39;stop", ALL_CELLS, true, 1);
    }

    private static void doors() {
        sentence("A door MAY do a HARM, if its ATOM is that NUMBER, or a CELL.");
        for (int n : new int[] {0, 1, 998, 999}) {
            reaches("door " + n, 0, false, n, 1);
            for (int other : new int[] {0, 1, 998, 999}) {
                if (other != n) {
                    reaches("door " + n, ALL_CELLS, true, other, 0);
                }
            }
            reaches("door c0", 0, false, n, n == 0 ? 1 : 2);
            reaches("door c15", 0, false, n, n == 0 ? 1 : 2);
        }
        reaches("door 007", 0, false, 7, 1);
        // no other ORDER says a thing
        reaches("set c0 = 5;if c0 = 5 jump 0;point c5 at 5", ALL_CELLS, true, 5, 0);
    }

    private static void notReached() {
        sentence("REACH of a HARM by a POWER: 0 not: from ORDER 0 on no door that MAY do it is come to.");
        JumpFence none = broken(ALL_CELLS, true, 5);
        due("reach(0, 0) without ORDERS", () -> none.reach(0, 0), 0);
        row(none, 0, 0);
        reaches("stop", ALL_CELLS, true, 5, 0);
        reaches("stop;door 5", ALL_CELLS, true, 5, 0);
        reaches("jump 2;door 5;stop", ALL_CELLS, true, 5, 0);
        reaches("door 5", 0, false, 5, 1);
        reaches("door 4;door 5", 0, false, 5, 1);
        reaches("jump 0;door c0", ALL_CELLS, true, 5, 0);
        reaches("if 1 = 2 jump 2;stop;door 5", ALL_CELLS, true, 5, 0);
        // it hangs on where one MAY come to, not on what a RUN does
        reaches("if c0 = 1 jump 2;stop;door 5", 0, false, 5, 2);
        JumpFence x = broken(1, false, 5, "through c0;stop;door 5");
        due("reach(0, 0)", () -> x.reach(0, 0), 1);
        x.grade(0, 1);
        due("reach(0, 0) of GRADE 1", () -> x.reach(0, 0), 0);
    }

    private static void rowIs(String text, int... dues) {
        row(broken(0, false, 5, text), 0, 0, dues);
    }

    private static void rowsOfOrders() {
        sentence("Else THE ROW OF ORDERS to one: of the fewest ORDERS; of several, ORDER by ORDER, the least number.");
        rowIs("door 5", 0);
        rowIs("door 4");
        rowIs("door c0;door 5", 0);
        rowIs("door 4;door 5;door 5", 0, 1);
        // fewer ORDERS, though greater numbers
        rowIs("if c0 = 0 jump 3;set c1 = 1;door 5;door 5", 0, 3);
        rowIs("if c0 = 0 jump 4;door 4;door 5;stop;door 4;door 5", 0, 1, 2);
        // of as many: the least number where they part, not the least door
        rowIs("if c0 = 1 jump 4;jump 5;stop;door 5;jump 3;door 5", 0, 1, 5);
        rowIs("jump 1;if c0 = 0 jump 3;door 5;door 5", 0, 1, 2);
        rowIs("if c0 = 1 jump 3;jump 4;stop;jump 5;jump 5;door 5", 0, 3, 5);
        rowIs("if c0 = 1 jump 3;jump 4;stop;if c0 = 1 jump 6;jump 5;jump 8;jump 7;door 5;jump 7", 0, 3, 6, 7);
        row(broken(1, false, 5, "through c0;stop;door 4;door 5;door 5"), 0, 0, 0, 3);
        row(broken(0, true, 5, "call 4;stop;door 5;door 5;back"), 0, 0, 0, 4, 2);
        // as long as can be
        JumpFence x = broken(0, false, 5, many("door 4", 39), "door 5");
        for (int k = 0; k < 40; k++) {
            int i = k;
            due("row(0, 0, " + k + ")", () -> x.row(0, 0, i), k);
        }
        due("row(0, 0, 40)", () -> x.row(0, 0, 40), NONE);
        due("reach(0, 0)", () -> x.reach(0, 0), 1);
    }

    /** c2, which nobody bends, is asked for what c0 was bent to at an if; the POWER has c0 and c1. */
    private static void bentTo(int was, String condition, boolean jumps, int number) {
        String begin = "set c0 = " + was + ";if " + condition + (jumps ? " jump 3;stop;" : " jump 5;");
        String behind = jumps ? " jump 6;stop;door 5" : " jump 6;stop;stop;door 5";
        for (int n = Math.max(0, number - 1); n <= number + 1; n++) {
            reaches(begin + "set c2 = c0;if c2 = " + n + behind, 3, false, 5, n == number ? 1 : 2);
        }
    }

    private static void triedAtIf() {
        sentence("It is TRIED, beginning as a RUN, without BENDS and GUARDS (but one): ahead of each ORDER the breaker"
                + " does what he must, and can: at if (unless both ways are one), if it would not go on as THE ROW OF"
                + " ORDERS does: the first ATOM, if it is a CELL in his POWER, else the second one, if that is, gets the"
                + " number nearest to the other one by which it would (of several the greater one);");
        reaches("door c7", 0, false, 0, 1);
        JumpFence bends = broken(0, false, 0, "door c0");
        bends.bend(0, 0, 7);
        due("reach(0, 0) with a BEND", () -> bends.reach(0, 0), 1);
        bends.harm(7);
        due("reach(0, 1) with a BEND", () -> bends.reach(0, 1), 2);
        // he bends only what he must
        bentTo(3, "c0 < 9", true, 3);
        bentTo(8, "c0 < 9", true, 8);
        bentTo(9, "c0 < 9", false, 9);
        bentTo(20, "c0 < 9", false, 20);
        bentTo(30, "c0 > 9", true, 30);
        bentTo(2, "c0 = 9", false, 2);
        // the nearest one; of two the greater one
        bentTo(9, "c0 < 9", true, 8);
        bentTo(20, "c0 < 9", true, 8);
        bentTo(3, "c0 < 9", false, 9);
        bentTo(9, "c0 > 9", true, 10);
        bentTo(1, "c0 > 9", true, 10);
        bentTo(11, "c0 > 9", false, 9);
        bentTo(1, "c0 = 9", true, 9);
        bentTo(9, "c0 = 9", false, 10);
        bentTo(9, "9 < c0", true, 10);
        bentTo(12, "9 < c0", false, 9);
        bentTo(9, "9 > c0", true, 8);
        bentTo(1, "9 > c0", false, 9);
        bentTo(1, "9 = c0", true, 9);
        bentTo(9, "9 = c0", false, 10);
        // the first ATOM ahead of the second one; c1 is 0, c3 is 0 and not in the POWER
        bentTo(0, "c0 > c1", true, 1);
        bentTo(4, "c1 > c0", true, 4);
        bentTo(0, "c3 < c0", true, 1);
        bentTo(7, "c0 < c3", false, 7);
        bentTo(7, "c3 = c0", true, 0);
        // the same CELL twice is no help, nor is a CELL that is not in the POWER
        reaches("if c0 < c0 jump 2;stop;door 5", 1, false, 5, 2);
        reaches("if c0 > c0 jump 2;stop;door 5", 1, false, 5, 2);
        reaches("if c0 = c0 jump 2;door 5;stop", 1, false, 5, 2);
        reaches("if c0 < 0 jump 2;stop;door 5", 0, false, 5, 2);
        reaches("if c0 < 0 jump 2;stop;door 5", ALL_CELLS - 1, true, 5, 2);
        reaches("if c0 < 0 jump 2;stop;door 5", 1, false, 5, 1);
        reaches("if c0 < c1 jump 2;stop;door 5", 1, false, 5, 1);
        reaches("if c0 < c1 jump 2;stop;door 5", 2, false, 5, 1);
        reaches("if c0 < c15 jump 2;stop;door 5", 1 << 15, false, 5, 1);
        reaches("if c0 < c1 jump 2;stop;door 5", ALL_CELLS - 3, true, 5, 2);
        // both ways are one: nothing is bent, and it goes on so
        reaches("if c0 = 1 jump 1;set c2 = c0;if c2 = 0 jump 4;stop;door 5", 1, false, 5, 1);
        reaches("if c0 = 0 jump 1;set c2 = c0;if c2 = 0 jump 4;stop;door 5", 1, false, 5, 1);
        reaches("if c0 = 1 jump 1;door 5", 0, false, 5, 1);
        // the nearest number may be one that no SUM is let to be
        String high = "set c0 = 999 * 100;set c0 = c0 + 9";
        reaches(high + "8;if c1 > c0 jump 4;stop;set c2 = c1;door 5", 2, false, 5, 1);
        reaches(high + "9;if c1 > c0 jump 4;stop;set c2 = c1;door 5", 2, false, 5, 2);
        reaches(high + "9;if c1 > c0 jump 4;stop;door 5", 2, false, 5, 1);
    }

    private static void triedAtJumps() {
        sentence("at through, by, back the CELL, or the last one of the ROW, gets the PLACE that is next in THE ROW OF"
                + " ORDERS, if it is another one; at the last door its CELL the HARM, likewise.");
        reaches("through c0;stop;door 5", 1, false, 5, 1);
        reaches("by c0;stop;door 5", 1, false, 5, 1);
        reaches("call 3;stop;door 5;back", 0, true, 5, 1);
        reaches("through c0;door 4;stop;jump 1;door 5", 1, false, 5, 1);
        // the CELL stays bent: c0 is 2 behind the through
        for (int n = 1; n <= 3; n++) {
            String text = "through c0 kind 1;stop;entry 1 set c2 = c0;if c2 = " + n + " jump 5;stop;door 5";
            JumpFence x = graded(broken(1, false, 5, text), 1, 0);
            due("reach(0, 0) in '" + text + "'", () -> x.reach(0, 0), n == 2 ? 1 : 2);
        }
        // one by one: two in the ROW are bent, each when it is the last one
        reaches("call 2;stop;call 5;door 5;stop;back;stop", 0, true, 5, 1);
        reaches("call 3;stop;stop;call 5;stop;back;door 5", 0, true, 5, 1);
        // what is not in the POWER goes on as it is
        reaches("point c0 at 3;point c0 at 2;through c0;door 5", 0, false, 5, 2);
        reaches("point c0 at 2;point c0 at 3;through c0;door 5", 0, false, 5, 1);
        reaches("set c0 = 0;through c0;door 5", 0, false, 5, 2);
        reaches("set c0 = 3;through c0;stop;door 5", 0, false, 5, 1);
        reaches("call 4;door 5;call 4;door 5;back", 0, false, 5, 1);
        reaches("call 4;stop;call 4;door 5;back", 0, false, 5, 2);
        reaches("call 4;stop;call 4;door 5;back", ALL_CELLS, false, 5, 2);
        reaches("call 4;stop;call 4;door 5;back", 0, true, 5, 1);
        // the last door
        reaches("door c0", 1, false, 999, 1);
        reaches("door c0", 1, false, 0, 1);
        reaches("door c0", ALL_CELLS - 1, true, 999, 2);
        reaches("set c0 = 7;door c0", 0, false, 7, 1);
        reaches("set c0 = 7;door c0", 0, false, 8, 2);
        reaches("set c0 = 7;door c0", 1, false, 8, 1);
    }

    private static void reached() {
        sentence("1 REACHED: at each ORDER it goes on so then, without a TRAP, at back of GRADE 3 that PLACE is the last"
                + " one of the SECOND ROW, too, and the last door says the HARM; else 2 OPEN.");
        reaches("set c0 = 333 * 300;door 5", 0, false, 5, 1);
        reaches("set c0 = 999 * 999;door 5", ALL_CELLS, true, 5, 2);
        reaches("set c0 = 0 - 999;set c0 = c0 * 101;door 5", ALL_CELLS, true, 5, 2);
        String eight = "call 1;call 2;call 3;call 4;call 5;call 6;call 7;call 8;";
        reaches(eight + "door 5", 0, false, 5, 1);
        reaches(eight + "call 9;door 5", ALL_CELLS, true, 5, 2);
        reaches(eight + "by c0;door 5", ALL_CELLS, true, 5, 2);
        reaches(eight + "through c0;door 5", ALL_CELLS, true, 5, 1);
        // back without a PLACE, though the ROW is in the POWER
        reaches("back;door 5", 0, true, 5, 2);
        reaches("back;door 5;call 0", 0, false, 5, 0);
        reaches("call 2;stop;back;back;door 5", 0, true, 5, 1);
        reaches("jump 3;call 3;door 5;back", 0, false, 5, 2);
        // GRADE 3: the ROW could be bent, the SECOND ROW cannot
        JumpFence x = broken(0, true, 5, "call 4;jump 2;call 4;door 5;back");
        int[] dues = {1, 1, 1, 2};
        for (int grade = 0; grade <= 3; grade++) {
            x.grade(4, grade);
            due("reach(0, 0) of GRADE " + grade, () -> x.reach(0, 0), dues[grade]);
            row(x, 0, 0, 0, 4, 3);
        }
        JumpFence onWay = graded(broken(0, true, 5, "call 2;door 5;back"), 3, 2);
        due("reach(0, 0) of GRADE 3 on its WAY", () -> onWay.reach(0, 0), 1);
        JumpFence without = graded(broken(0, false, 5, "call 2;door 5;back"), 3, 2);
        due("reach(0, 0) of GRADE 3 without a POWER", () -> without.reach(0, 0), 1);
        reaches("door c0", 0, false, 5, 2);
    }

    private static void closed() {
        sentence("CLOSED: all ORDERS that one MAY come to from 0 by a POWER, as bits.");
        JumpFence none = broken(ALL_CELLS, true, 5);
        due("closed(0) without ORDERS", () -> none.closed(0), 0);
        closedIs("stop", 0, false, 1);
        closedIs("stop;jump 0", 0, false, 1);
        closedIs("jump 2;stop;jump 0", 0, false, 5);
        JumpFence all = broken(0, false, 5, many("door 1", 40));
        due("closed(0) of 40", () -> all.closed(0), (1L << 40) - 1);
        JumpFence last = broken(0, false, 5, "jump 39", many("stop", 39));
        due("closed(0) of the first and the last", () -> last.closed(0), (1L << 39) + 1);
        StringBuilder back = new StringBuilder("jump 39");
        StringBuilder more = new StringBuilder();
        for (int k = 1; k < 40; k++) {
            (k < 20 ? back : more).append(";jump " + (k - 1));
        }
        JumpFence down = broken(0, false, 5, back.toString(), more.substring(1));
        due("closed(0), the last ones first", () -> down.closed(0), (1L << 40) - 1);
    }

    private static void leastIs(JumpFence x, int ticks, int... grades) {
        due("least(0, 0, NONE)", () -> x.least(0, 0, NONE), ticks);
        for (int k = 0; k < grades.length; k += 2) {
            int order = grades[k];
            due("least(0, 0, " + order + ")", () -> x.least(0, 0, order), grades[k + 1]);
        }
    }

    private static void least() {
        sentence("LEAST: GRADES for the first 6 JUMPS by their numbers (the others keep theirs; 3 for back alone), by"
                + " which the REACH of a HARM by a POWER is 0: the least TICKS of their GRADES together (GRADE 0: 0), of"
                + " several, JUMP by JUMP, the least GRADE; none.");
        // without ORDERS, without JUMPS, with a HARM that is not reached
        leastIs(broken(1, true, 5), 0);
        leastIs(broken(1, true, 5, "stop"), 0, 0, NONE);
        leastIs(broken(1, true, 5, "door 5"), NONE, 0, NONE);
        leastIs(broken(1, true, 5, "through c0;stop"), 0, 0, 0, 1, NONE);
        leastIs(broken(1, true, 5, "through c0;door 5"), 1, 0, 1, 1, NONE);
        // no GRADE holds it: the door is where the JUMP has to land
        leastIs(broken(1, true, 5, "point c0 at 2;through c0;entry 0 door 5"), NONE, 1, NONE);
        // only FLOW holds it; only FLOW holds it for back, and GRADE 3 if that is cheaper
        leastIs(broken(1, true, 5, "point c0 at 3;through c0;entry 0 door 5;stop"), 2, 1, 2);
        JumpFence back = broken(0, true, 5, "call 4;stop;call 5;door 5;back;stop");
        leastIs(back, 2, 4, 2);
        back.ticks(3, 2);
        leastIs(back, 2, 4, 2);
        back.ticks(3, 1);
        leastIs(back, 1, 4, 3);
        back.ticks(2, 1);
        leastIs(back, 1, 4, 2);
        // GRADE 3 for back alone
        JumpFence through = broken(1, true, 5, "point c0 at 3;through c0;entry 0 door 5;stop");
        through.ticks(3, 1);
        leastIs(through, 2, 1, 2);
        JumpFence by = broken(1, true, 5, "point c0 at 3;by c0;entry 0 door 5;stop");
        by.ticks(3, 1);
        by.ticks(2, 99);
        leastIs(by, 99, 1, 2);
        // a greater GRADE may be the cheaper one
        JumpFence cheap = broken(1, false, 5, "through c0;door 5");
        cheap.ticks(1, 99);
        leastIs(cheap, 2, 0, 2);
        cheap.ticks(1, 2);
        leastIs(cheap, 2, 0, 1);
        // KIND holds it, FLOW does not; and so for the second of two, of which the first is come to by the second
        leastIs(broken(1, false, 5, "point c0 at 3;through c0 kind 1;entry 1 stop;door 5"), 1, 1, 1);
        String two = "point c0 at 6;point c0 at 7;jump 4;entry 1 through c0 kind 2;point c1 at 7;through c1 kind 1;"
                + "entry 2 stop;door 5";
        leastIs(broken(2, false, 5, two), 2, 3, 1, 5, 1);
        // GRADES that are there now are not kept, and stay as they are
        JumpFence had = graded(broken(1, false, 5, "through c0;door 5"), 2, 0);
        due("reach(0, 0)", () -> had.reach(0, 0), 0);
        leastIs(had, 1, 0, 1);
        due("order(0, 2)", () -> had.order(0, 2), 2);
        JumpFence needless = graded(broken(1, false, 5, "stop;through c0"), 2, 1);
        leastIs(needless, 0, 1, 0);
        // OPEN is not 0
        leastIs(broken(0, false, 5, "point c0 at 1;if c0 = 9 jump 3;stop;door 5"), NONE);
    }

    private static void leastOfSix() {
        // of the same sentence: six JUMPS, several that hold as well, and a 7th
        String chain = "through c0;through c0;through c0;through c0;through c0;through c0;";
        JumpFence six = broken(1, false, 5, chain + "door 5");
        leastIs(six, 1, 0, 1, 1, 0, 2, 0, 3, 0, 4, 0, 5, 0, 6, NONE);
        // one of two is enough: the first JUMP has the least GRADE
        JumpFence two = broken(2, false, 5, "point c0 at 2;through c0;through c1;stop;door 5");
        leastIs(two, 1, 1, 0, 2, 1);
        // each of the six leads to the door alone
        String fan = "if c2 = 0 jump 7;if c2 = 1 jump 8;if c2 = 2 jump 9;if c2 = 3 jump 10;if c2 = 4 jump 11;through c0;"
                + "stop;through c0;through c0;through c0;through c0;through c0;";
        JumpFence each = broken(1, false, 5, fan + "door 5");
        leastIs(each, 6, 5, 1, 7, 1, 8, 1, 9, 1, 10, 1, 11, 1);
        each.ticks(1, 99);
        each.ticks(2, 99);
        leastIs(each, 594, 5, 1, 11, 1);
        // a 7th JUMP keeps its GRADE: it leads to the door, or not
        JumpFence seventh = broken(1, false, 5, "jump 7;" + chain + "through c0;door 5");
        leastIs(seventh, NONE, 1, NONE, 7, NONE);
        seventh.grade(7, 1);
        leastIs(seventh, 0, 1, 0, 6, 0, 7, NONE);
        seventh.grade(7, 3);
        leastIs(seventh, 0, 1, 0, 6, 0, 7, NONE);
        due("order(7, 2)", () -> seventh.order(7, 2), 3);
        // the sixth is still one of them
        JumpFence sixth = broken(1, false, 5, "jump 6;through c1;through c1;through c1;through c1;through c1;through c0;door 5");
        leastIs(sixth, 1, 1, 0, 5, 0, 6, 1, 7, NONE);
        JumpFence mixed = broken(1, true, 5, "call 3;stop;door 5;back;through c0");
        leastIs(mixed, 1, 3, 1, 4, 0);
    }
}
