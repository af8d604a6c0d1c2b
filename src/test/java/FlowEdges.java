/** LANDINGS, what CELLS may hold, GRADES and TICKS. */
final class FlowEdges extends Edges {
    private static final long ALL_40 = (1L << 40) - 1;

    static void all() {
        kinds();
        held();
        odd();
        landingsOfCells();
        landingsOfBack();
        grades();
        guards();
        lets();
        ticks();
    }

    private static void landings(String text, int order, boolean flow, long want) {
        JumpFence x = with(text);
        due("landings(" + order + ", " + flow + ") in '" + text + "'", () -> x.landings(order, flow), want);
    }

    private static void kinds() {
        sentence("LANDINGS, as bits (bit k: ORDER k).");
        landings("entry 2 through c0 kind 2", 0, false, 1);
        landings("stop;entry 2 through c0 kind 2", 1, false, 2);
        JumpFence x = with(many("stop", 38), "through c0 kind 2;entry 2 stop");
        due("landings(38, false)", () -> x.landings(38, false), 1L << 39);
        JumpFence high = with(many("stop", 30), "through c0 kind 1;entry 1 stop;entry 1 stop;entry 1 stop");
        due("landings(30, false)", () -> high.landings(30, false), (1L << 31) + (1L << 32) + (1L << 33));

        sentence("By KIND: of through and by: all ORDERS with entry of their KIND; of back: all ORDERS behind a call or"
                + " by that are there.");
        String text = "entry 0 stop;entry 1 stop;entry 2 stop;entry 3 stop;stop;through c0;by c0 kind 1;through c0 kind"
                + " 2;by c0 kind 3;back";
        landings(text, 5, false, 1);
        landings(text, 6, false, 2);
        landings(text, 7, false, 4);
        landings(text, 8, false, 8);
        landings(text, 9, false, (1 << 7) + (1 << 9));
        landings("through c0 kind 1;entry 0 stop", 0, false, 0);
        landings("through c0;stop;stop", 0, false, 0);
        JumpFence all = with(many("entry 1 by c0", 20), many("entry 1 by c0 kind 1", 15), many("entry 1 back", 5));
        due("landings(0, false)", () -> all.landings(0, false), 0);
        due("landings(20, false)", () -> all.landings(20, false), ALL_40);
        due("landings(39, false)", () -> all.landings(39, false), (1L << 36) - 2);
        // behind the last one nothing is there, until a part more is loaded
        JumpFence last = with("back;call 0");
        due("landings(0, false)", () -> last.landings(0, false), 0);
        put(last, "stop");
        last.load();
        due("landings(0, false)", () -> last.landings(0, false), 4);
        landings("back;by c0", 0, false, 0);
        landings("back;jump 0;through c0;back;stop", 0, false, 0);
    }

    private static void held() {
        sentence("FLOW: PLACES that a CELL may hold: those that a point to it names; with set to it of one CELL alone"
                + " all that that one may hold; until nothing moves.");
        JumpFence x = with("point c0 at 0;point c0 at 39;point c1 at 3;set c2 = c0;set c2 = c1;set c3 = c0 + 0;set c4 = 9");
        long edges = 1L << 39 | 1;
        due("holds(0)", () -> x.holds(0), edges);
        due("holds(1)", () -> x.holds(1), 8);
        due("holds(2)", () -> x.holds(2), edges | 8);
        due("holds(3)", () -> x.holds(3), 0);
        due("holds(4)", () -> x.holds(4), 0);
        due("holds(5)", () -> x.holds(5), 0);
        JumpFence first = with("set c9 = c8;point c8 at 0");
        due("holds(9) of PLACE 0 alone", () -> first.holds(9), 1);
        // a chain through all CELLS, told the wrong way round, and one that comes back to its begin
        StringBuilder chain = new StringBuilder();
        for (int k = 15; k > 0; k--) {
            chain.append("set c" + k + "=c" + (k - 1) + ";");
        }
        JumpFence y = with(chain + "point c0 at 38");
        for (int k = 0; k < 16; k++) {
            int cell = k;
            due("holds(" + k + ") of a chain", () -> y.holds(cell), 1L << 38);
            due("odd(" + k + ") of a chain", () -> y.odd(cell), false);
        }
        put(y, "set c0 = c15;point c7 at 1");
        y.load();
        for (int k = 0; k < 16; k++) {
            int cell = k;
            due("holds(" + k + ") of a ring", () -> y.holds(cell), 1L << 38 | 2);
        }
        put(y, "set c0 = 5");
        y.load();
        due("count(7) of a ring", () -> y.count(7), 16);
        due("holds(9) of a ring that is ODD", () -> y.holds(9), 1L << 38 | 2);
    }

    private static void oddIs(String text, int cell, boolean want) {
        JumpFence x = with(text);
        due("odd(" + cell + ") in '" + text + "'", () -> x.odd(cell), want);
    }

    private static void odd() {
        sentence("A CELL is ODD, if some set to it has a NUMBER alone or an OP, or one CELL alone that is ODD.");
        oddIs("stop", 0, false);
        oddIs("set c0 = 0", 0, true);
        oddIs("set c0 = 999", 0, true);
        oddIs("set c0 = 1", 1, false);
        oddIs("set c0 = c1", 0, false);
        oddIs("set c0 = c0", 0, false);
        oddIs("set c0 = c1 + c1", 0, true);
        oddIs("set c0 = c1 + c1", 1, false);
        oddIs("set c0 = c1 - 0", 0, true);
        oddIs("set c0 = 1 * c1", 0, true);
        oddIs("point c0 at 1", 0, false);
        oddIs("set c15 = 1;set c14 = c15", 14, true);
        oddIs("set c14 = c15;set c15 = 1", 14, true);
        oddIs("set c0 = c1;set c1 = c2;set c2 = c3;set c3 = 1", 0, true);
        oddIs("set c0 = c1;set c1 = c2;set c2 = 1 + 1;set c3 = c4", 3, false);
        oddIs("set c0 = c1;set c0 = 4;set c0 = c2", 0, true);
        oddIs("set c0 = c1;set c0 = 4;set c0 = c2", 2, false);
        oddIs("set c0 = 4;point c0 at 1;set c0 = c2", 0, true);
    }

    private static void landingsOfCells() {
        sentence("By FLOW: of through and by: what the CELL may hold (PLACES that are no ORDERS left out); if it is ODD:"
                + " by KIND.");
        landings("point c0 at 0;point c0 at 39;point c0 at 4;through c0", 3, true, 1);
        landings("point c0 at 0;point c0 at 39;point c0 at 3;by c0", 3, true, 9);
        landings("through c0 kind 1;entry 1 stop", 0, true, 0);
        landings("point c0 at 0;through c0 kind 1;entry 1 stop", 1, true, 1);
        landings("point c0 at 0;through c0 kind 1;entry 1 set c0 = 5", 1, true, 4);
        landings("point c0 at 0;by c0 kind 2;entry 1 set c0 = 5", 1, true, 0);
        landings("point c0 at 0;by c0;entry 0 set c0 = c1;set c1 = 1", 1, true, 4);
        // a PLACE that was no ORDER is one, when a part more is loaded
        JumpFence x = with("point c0 at 2;through c0");
        due("landings(1, true)", () -> x.landings(1, true), 0);
        put(x, "stop");
        x.load();
        due("landings(1, true) with a part more", () -> x.landings(1, true), 4);
        JumpFence y = with("point c0 at 39;through c0", many("stop", 38));
        due("landings(1, true) of the 40th", () -> y.landings(1, true), 1L << 39);
    }

    private static void landingsOfBack() {
        sentence("Of back: of each call (its PLACE) and by (its LANDINGS by FLOW) that land at an ORDER from which one"
                + " comes to this back (or that it is; by next ORDERS, jump, both ways of if, call and by as to the next"
                + " ORDER, through by FLOW; no way goes on from back and stop): the ORDER behind it (if there is one).");
        landings("back", 0, true, 0);
        landings("call 2;stop;back", 2, true, 2);
        landings("call 2;call 2;back", 2, true, 6);
        landings("point c0 at 3;by c0;stop;back", 3, true, 4);
        landings("by c0;stop;back", 2, true, 0);
        landings("back;call 0;stop", 0, true, 4);
        landings("jump 1;back;call 0;stop", 1, true, 8);
        // by of what is ODD lands by KIND
        landings("set c0 = 4;by c0 kind 1;stop;back;entry 1 back", 3, true, 0);
        landings("set c0 = 4;by c0 kind 1;stop;back;entry 1 back", 4, true, 4);
        // next ORDERS, jump, both ways of if
        landings("call 2;stop;door 1;set c0 = 1;point c0 at 1;back", 5, true, 2);
        landings("call 2;stop;jump 4;stop;back", 4, true, 2);
        landings("call 2;stop;jump 4;back;stop", 3, true, 0);
        landings("call 2;stop;if 1 = 1 jump 4;back;back", 3, true, 2);
        landings("call 2;stop;if 1 = 1 jump 4;back;back", 4, true, 2);
        landings("call 2;stop;if 1 = 2 jump 4;back;back", 4, true, 2);
        landings("call 2;stop;if c0 = c1 jump 4;back;back", 4, true, 2);
        // call and by as to the next ORDER, not to where they land
        landings("call 2;stop;call 4;back;back", 3, true, 2);
        landings("call 2;stop;call 4;back;back", 4, true, 8);
        landings("call 2;stop;by c0;back;stop", 3, true, 2);
        // through by FLOW, also where it is by KIND
        landings("call 3;stop;point c0 at 4;through c0;back;back", 4, true, 2);
        landings("call 3;stop;point c0 at 4;through c0;back;back", 5, true, 0);
        landings("call 2;stop;through c0 kind 1;set c0 = 1;entry 1 back", 4, true, 2);
        landings("call 2;stop;through c0;back", 3, true, 0);
        // no way goes on from back and stop
        landings("call 2;stop;back;back", 3, true, 0);
        landings("call 2;stop;stop;back", 3, true, 0);
        // the ORDER behind, if there is one; a PLACE that is no ORDER
        landings("jump 1;back;call 1", 1, true, 0);
        landings("jump 1;back;call 1;stop", 1, true, 8);
        landings("call 39;stop;back", 2, true, 0);
        landings("call 2;stop;jump 39;back", 3, true, 0);
        // round and round: the way comes to an end all the same, and the far end of 40 is come to
        landings("call 2;stop;jump 3;if c0 = 1 jump 2;back", 4, true, 2);
        JumpFence x = with("call 1", many("door 1", 38) + ";back");
        due("landings(39, true)", () -> x.landings(39, true), 2);
        StringBuilder hops = new StringBuilder("jump 3");
        for (int k = 2; k < 39; k++) {
            hops.append(";jump " + (k + 1));
        }
        JumpFence y = with("call 1", hops + ";back");
        due("landings(39, true) by jumps", () -> y.landings(39, true), 2);
    }

    private static void grades() {
        sentence("GRADES of JUMPS: 0 no guard (at first), 1 by KIND, 2 by FLOW, 3 by WAY: of back: just the last one of"
                + " the SECOND ROW; of through and by as 2.");
        JumpFence x = with(BASE);
        due("order(1, 2)", () -> x.order(1, 2), 0);
        due("order(6, 2)", () -> x.order(6, 2), 0);
        due("count(2)", () -> x.count(2), 0);
        // c1 is bent to an ORDER of its KIND, to one of another KIND, and to what is no ORDER
        int[] places = {5, 7, 4, 0, 39};
        boolean[][] let = {{true, true, true, true, true}, {true, true, false, false, false},
            {true, false, false, false, false}, {true, false, false, false, false}};
        for (String word : new String[] {"by", "through"}) {
            for (int grade = 0; grade <= 3; grade++) {
                for (int k = 0; k < places.length; k++) {
                    JumpFence y = graded(with(BASE.replace("by", word)), grade, 1);
                    y.bend(1, 1, places[k]);
                    due(word + " of GRADE " + grade + " to " + places[k], () -> y.run(true, 0) == 1, !let[grade][k]);
                }
            }
        }
        // back: 1 is the last one of the SECOND ROW, 2 and 5 are behind calls, 5 not by FLOW, 3 is behind none
        String backs = "call 3;call 3;stop;back;call 39;stop";
        int[] lands = {1, 2, 5, 3, 39};
        boolean[][] lets = {{true, true, true, true, true}, {true, true, true, false, false},
            {true, true, false, false, false}, {true, false, false, false, false}};
        for (int grade = 0; grade <= 3; grade++) {
            for (int k = 0; k < lands.length; k++) {
                JumpFence y = graded(with(backs), grade, 3);
                y.bend(1, 16, lands[k]);
                boolean stopped = !lets[grade][k];
                due("back of GRADE " + grade + " to " + lands[k], () -> y.run(true, 1) == 1, stopped);
            }
        }
        // GRADE 3 lets what no FLOW knows, if it is the last one of the SECOND ROW: here it is no ORDER
        runs(graded(with("jump 2;back;call 1"), 3, 1), false, 3, 3, 4, 3, 0, 1, NONE, NONE);
        runs(graded(with("jump 2;back;call 1"), 2, 1), false, 1, 2, 0, 1, 0, 0, NONE, 3);
    }

    private static void guards() {
        sentence("GUARD: a landing that the GRADE does not let.");
        // LETS are ORDERS 0 and 1; numbers whose bit wraps around to one of them
        int[] places = {2, 3, 32, 33, 39, 40, 63, 64, 65, 128, 256, 257, -1, -32, -63, -64, -128, LOWEST, LOWEST + 1,
            HIGHEST};
        for (int place : places) {
            for (int grade = 1; grade <= 3; grade++) {
                JumpFence x = graded(with("entry 0 point c0 at 0;entry 0 point c0 at 1;through c0;stop"), grade, 2);
                x.bend(2, 0, place);
                runs(x, true, 1, 2, 0, 2, 0, 0, 0, place);
                JumpFence y = graded(with("call 3;call 3;stop;back"), grade, 3);
                y.bend(1, 16, place);
                if (place != 2 || grade == 3) {
                    runs(y, true, 1, 1, 0, 3, 0, 0, 0, place);
                }
            }
        }
        JumpFence let = graded(with("entry 0 point c0 at 0;entry 0 point c0 at 1;through c0;stop"), 1, 2);
        due("run(false, 5)", () -> let.run(false, 5) > 0, true);
        // a RUN without BENDS is stopped, too
        runs(graded(with("through c0;stop"), 2, 0), false, 1, 0, 0, 0, 0, 0, NONE, 0);
        runs(graded(with("by c0;stop"), 1, 0), false, 1, 0, 0, 0, 0, 0, NONE, 0);
        // the landing that would be let is asked for when the JUMP comes, not when the CELL was written
        JumpFence again = graded(with("point c0 at 3;through c0;stop;point c0 at 2;through c0"), 2, 1, 4);
        runs(again, false, 0, 5, 4, 2, 0, 2);
    }

    private static void lets() {
        sentence("LETS: the LANDINGS of its GRADE (0: all ORDERS; 3 of back: as 2).");
        JumpFence x = with("call 4;point c0 at 3;by c0 kind 1;entry 1 stop;entry 1 back;back");
        long[][] dues = {{63, 24, 8, 8}, {63, 2 + 8, 2, 2}, {63, 2 + 8, 0, 0}};
        int[] jumps = {2, 4, 5};
        for (int k = 0; k < jumps.length; k++) {
            for (int grade = 0; grade <= 3; grade++) {
                int order = jumps[k];
                x.grade(order, grade);
                due("lets(" + order + ") of GRADE " + grade, () -> x.lets(order), dues[k][grade]);
            }
        }
        JumpFence one = with("back");
        due("lets(0) of one ORDER", () -> one.lets(0), 1);
        JumpFence forty = with(many("back", 40));
        due("lets(39) of 40 ORDERS", () -> forty.lets(39), ALL_40);
        // all ORDERS means those of later parts, too
        put(one, "stop");
        one.load();
        due("lets(0) with a part more", () -> one.lets(0), 3);
    }

    private static void ticks() {
        sentence("TICKS: of GRADES 1 to 3 (1, 2, 4 at first; 1 to 99), each time that a JUMP of it is done, in a RUN.");
        int[] first = {0, 1, 2, 4};
        for (int grade = 0; grade <= 3; grade++) {
            JumpFence x = graded(with("call 3;call 3;stop;back"), grade, 3);
            int two = 2 * first[grade];
            due("TICKS of GRADE " + grade, () -> x.run(false, 2), two);
            JumpFence y = graded(with("point c0 at 2;through c0;stop;entry 0 stop"), grade, 1);
            int one = first[grade];
            due("TICKS of through of GRADE " + grade, () -> y.run(false, 2), grade == 1 ? 0 : one);
            JumpFence z = graded(with("point c0 at 2;by c0;entry 0 stop"), grade, 1);
            due("TICKS of by of GRADE " + grade, () -> z.run(false, 2), one);
            JumpFence w = graded(with("call 2;stop;back"), grade, 2);
            for (int n : new int[] {1, 2, 98, 99}) {
                int g = grade;
                due("ticks(" + g + ", " + n + ")", () -> ticksOf(w, g, n), g == 0 ? "throws.IllegalArgumentException" : 0);
                due("TICKS of GRADE " + g, () -> w.run(false, 2), g == 0 ? 0 : n);
            }
        }
        for (int grade : outside(1, 3)) {
            argument("ticks(" + grade + ", 1)", () -> ticksOf(with("stop"), grade, 1));
        }
        for (int n : outside(1, 99)) {
            argument("ticks(1, " + n + ")", () -> ticksOf(with("stop"), 1, n));
        }
        // as many as a RUN can have
        JumpFence most = graded(with("entry 0 through c0"), 1, 0);
        most.ticks(1, 99);
        due("TICKS of 300 JUMPS", () -> most.run(false, 2), 29700);
        // a JUMP that a GUARD stops is not done
        JumpFence stopped = graded(with("call 3;stop;stop;back"), 2, 3);
        stopped.bend(1, 16, 2);
        due("TICKS of a JUMP that was stopped", () -> stopped.run(true, 2), 0);
        due("TICKS of a JUMP that was not", () -> stopped.run(false, 2), 2);
    }
}
