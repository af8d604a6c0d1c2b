/** For each promise calls whose answers were worked out by hand from the document. */
public final class PromisesTest extends Checks {
    public static void main(String[] args) {
        newObject();
        feedAndEnd();
        loadAndFault();
        faultsInTexts();
        orderAndGrade();
        ticks();
        landings();
        holdsAndOdd();
        bends();
        runEnds();
        runNumbers();
        leads();
        powersAndHarms();
        reach();
        reachByIf();
        reachByRows();
        rows();
        closed();
        least();
        marksAndJoined();
        fence();
        late();
        judge();
        imageAndBack();
        count();
        forty();
        leave("all promises are kept");
    }

    private static void promise(int number) {
        about("promise " + number);
    }

    private static void newObject() {
        promise(1);
        JumpFence x = new JumpFence();
        for (int k = 0; k < 10; k++) {
            int what = k;
            due("count(" + k + ")", () -> x.count(what), 0);
        }
        due("fault()", x::fault, NONE);
        due("back()", x::back, false);
        due("marks()", x::marks, 0);
        due("joined(1)", () -> x.joined(1), 0);
        due("end(0)", () -> x.end(0), true);
        due("straight()", x::straight, 0);
        due("late(1)", () -> x.late(1), NONE);
        runs(x, true, 3, 0, 0, 0, 0, 0, NONE, NONE);
        index("order(0, 0)", () -> x.order(0, 0));
        x.power(0, true);
        x.harm(1);
        due("reach(0, 0)", () -> x.reach(0, 0), 0);
        due("closed(0)", () -> x.closed(0), 0);
        due("least(0, 0, NONE)", () -> x.least(0, 0, NONE), 0);
        due("row(0, 0, 0)", () -> x.row(0, 0, 0), NONE);
    }

    private static void feedAndEnd() {
        promise(2);
        JumpFence x = new JumpFence();
        for (int k = 1; k <= 20; k++) {
            due("feed", () -> x.feed(0, 0, 0, 0, 0), 20 * k);
        }
        due("feed of a full TAPE", () -> x.feed(0, 0, 0, 0, 0), NONE);
        promise(3);
        due("end(401)", () -> x.end(401), false);
        due("end(-1)", () -> x.end(-1), false);
        due("end(400)", () -> x.end(400), true);
        due("end(381)", () -> x.end(381), true);
        promise(2);
        due("feed of 381", () -> x.feed(0, 0, 0, 0, 0), NONE);
        promise(3);
        due("end(380)", () -> x.end(380), true);
        due("end(381) of 380", () -> x.end(381), false);
        promise(2);
        due("feed of 380", () -> x.feed(0, 0, 0, 0, 0), 400);
        promise(3);
        due("end(0)", () -> x.end(0), true);
        promise(2);
        // s t o p in one number, the highest byte first
        due("feed", () -> x.feed(0x73746f70, 0x20202020, 0x20202020, 0x20202020, 0x20202020), 20);
        due("load()", x::load, 1);
        due("order(0, 0)", () -> x.order(0, 0), 9);
    }

    private static void loadAndFault() {
        promise(4);
        JumpFence x = new JumpFence();
        due("load() of an empty text", x::load, 0);
        put(x, "   ");
        due("load() of blanks", x::load, 0);
        put(x, "stop;back");
        due("load()", x::load, 2);
        due("load() of a TAPE that is used up", x::load, 2);
        x.grade(1, 2);
        put(x, "entry 3 stop;stop;bad");
        argument("load() of a wrong text", x::load);
        promise(5);
        due("fault()", x::fault, 18);
        due("count(0)", () -> x.count(0), 2);
        due("end(1) of a TAPE that is used up", () -> x.end(1), false);
        due("fault() again", x::fault, 18);
        promise(4);
        put(x, " jump 0 ");
        due("load() of a third one", x::load, 3);
        due("GRADE of what was there", () -> x.order(1, 2), 2);
        due("entry of a slot that a wrong text had used", () -> x.order(2, 1), NONE);
        promise(5);
        due("fault() of a right text", x::fault, NONE);
        promise(4);
        JumpFence y = with(many("stop", 37));
        put(y, "stop;stop;back;");
        argument("load() of 40 and a ; behind", y::load);
        due("fault()", y::fault, 15);
        put(y, "stop;stop;back; entry 1 stop");
        argument("load() of a 41st", y::load);
        due("fault()", y::fault, 16);
        put(y, "stop;stop;back");
        due("load() of a 40th", y::load, 40);
        put(y, " ");
        due("load() of none behind 40", y::load, 40);
        put(y, "  stop");
        argument("load() of a 41st alone", y::load);
        due("fault()", y::fault, 2);
    }

    private static void fault(String text, int at) {
        JumpFence x = new JumpFence();
        put(x, text);
        if (at == NONE) {
            due("load() of '" + text + "'", () -> x.load() > 0, true);
        } else {
            argument("load() of '" + text + "'", x::load);
        }
        due("fault() of '" + text + "'", x::fault, at);
    }

    private static void faultsInTexts() {
        promise(5);
        fault("set c15=999*c0", NONE);
        fault("set c 1 = c 2 - 003", NONE);
        fault("set c1 = 5 ;door c1", NONE);
        fault("setc1 = 5", 0);
        fault("set c16 = 5", 5);
        fault("set c0001 = 5", 5);
        fault("set d1 = 5", 4);
        fault("set cc1 = 5", 4);
        fault("set 1 = 5", 4);
        fault("set c = 5", 6);
        fault("set c1 5", 7);
        fault("set c1 = ", 9);
        fault("set c1 = 1000", 9);
        fault("set c1 = 1 + ", 13);
        fault("set c1 = 1 / 2", 11);
        fault("set c1 = 1 + 2 + 3", 15);
        fault("set c1 = -1", 9);
        fault("point c1at39", NONE);
        fault("point c1 at 40", 12);
        fault("point c1 at c2", 12);
        fault("point c1 to 4", 9);
        fault("jump39", NONE);
        fault("jump", 4);
        fault("jump 5 5", 7);
        fault("if c1<2jump3", NONE);
        fault("if 1 = 2 jump 3", NONE);
        fault("if 1 == 2 jump 3", 6);
        fault("if 1 + 2 jump 3", 5);
        fault("if 1 > 2 call 3", 9);
        fault("if 1 > 2", 8);
        fault("through c1kind3", NONE);
        fault("through c1 kind 4", 16);
        fault("through c1 kind", 15);
        fault("through c1 kid 3", 11);
        fault("through c1 3", 11);
        fault("by 3", 3);
        fault("call 1 kind 2", 7);
        fault("back 1", 5);
        fault("door 999", NONE);
        fault("door stop", 5);
        fault("stop", NONE);
        fault("stop stop", 5);
        fault("Stop", 0);
        fault("stops", 0);
        fault("stop;", 5);
        fault("stop; ;stop", 6);
        fault(" ; stop", 1);
        fault("entry 3 stop", NONE);
        fault("entry0stop", NONE);
        fault("entry 4 stop", 6);
        fault("entry stop", 6);
        fault("entry 1", 7);
        fault("entry 1 entry 2 stop", 8);
        fault("stop\n", 4);
        fault("stop\u00e9", 4);
        fault("kind 1", 0);
        fault("c1", 0);
        fault("door c;stop", 6);
        fault("door c", 6);
        fault("door c15", NONE);
        fault("door c16", 6);
        fault("set c1 = 2 * c16", 14);
        fault("if c0 < c;stop", 9);
        fault("entry;stop", 5);
        fault("entry", 5);
        fault("stopz", 0);
        fault("astop", 0);
        fault("stop`", 4);
        fault("stop{", 4);
        fault("jump 1/", 6);
        fault("jump 1:", 6);
        fault(";".repeat(400), 0);
        fault("jump 1" + " ".repeat(394), NONE);
        fault("jump" + " ".repeat(396), 400);
        fault("stop;".repeat(39) + "stop", NONE);
        fault("stop;".repeat(40) + "stop", 200);
        fault("stop;".repeat(79) + "stop;", 200);
    }

    private static void orderAndGrade() {
        promise(6);
        JumpFence x = with("entry 2 set c1 = 1;point c1 at 7;jump 3;if 1 < 2 jump 9;through c1 kind 2;entry 0 call 6",
                "by c3;back;door 4;stop");
        int[][] dues = {
            {0, 2, 0, 0, NONE}, {1, NONE, 0, 0, 7}, {2, NONE, 0, 0, 3}, {3, NONE, 0, 0, 9}, {4, NONE, 0, 2, NONE},
            {5, 0, 0, 0, 6}, {6, NONE, 0, 0, NONE}, {7, NONE, 0, 0, NONE}, {8, NONE, 0, 0, NONE},
            {9, NONE, 0, 0, NONE}
        };
        for (int k = 0; k < dues.length; k++) {
            for (int w = 0; w < 5; w++) {
                int order = k;
                int what = w;
                due("order(" + k + ", " + w + ")", () -> x.order(order, what), dues[k][w]);
            }
        }
        index("order(10, 0)", () -> x.order(10, 0));
        index("order(-1, 9)", () -> x.order(-1, 9));
        noSuch("order(0, 5)", () -> x.order(0, 5));
        noSuch("order(0, -1)", () -> x.order(0, -1));
        promise(7);
        due("grade(4, 3)", () -> x.grade(4, 3), true);
        due("grade(4, 3) again", () -> x.grade(4, 3), false);
        due("order(4, 2)", () -> x.order(4, 2), 3);
        due("grade(6, 0)", () -> x.grade(6, 0), false);
        due("grade(7, 1)", () -> x.grade(7, 1), true);
        due("grade(7, 0)", () -> x.grade(7, 0), true);
        index("grade(10, 9)", () -> x.grade(10, 9));
        index("grade(-1, 1)", () -> x.grade(-1, 1));
        noJump("grade(5, 9) of call", () -> x.grade(5, 9));
        noJump("grade(2, 1) of jump", () -> x.grade(2, 1));
        argument("grade(4, 4)", () -> x.grade(4, 4));
        argument("grade(4, -1)", () -> x.grade(4, -1));
        due("order(4, 2) then", () -> x.order(4, 2), 3);
    }

    private static void ticks() {
        promise(8);
        JumpFence x = with("call 2;stop;back");
        int[] first = {0, 1, 2, 4};
        for (int k = 0; k < 4; k++) {
            x.grade(2, k);
            due("TICKS of GRADE " + k, () -> x.run(false, 2), first[k]);
        }
        x.ticks(1, 99);
        x.ticks(3, 1);
        due("TICKS of GRADE 3", () -> x.run(false, 2), 1);
        x.grade(2, 1);
        due("TICKS of GRADE 1", () -> x.run(false, 2), 99);
        argument("ticks(0, 1)", () -> ticksOf(x, 0, 1));
        argument("ticks(4, 1)", () -> ticksOf(x, 4, 1));
        argument("ticks(1, 0)", () -> ticksOf(x, 1, 0));
        argument("ticks(1, 100)", () -> ticksOf(x, 1, 100));
        due("TICKS of GRADE 1 then", () -> x.run(false, 2), 99);
    }

    private static void landings() {
        promise(9);
        JumpFence x = with(BASE);
        due("landings(1, false)", () -> x.landings(1, false), 160);
        due("landings(1, true)", () -> x.landings(1, true), 32);
        due("landings(6, true)", () -> x.landings(6, true), 4);
        due("landings(8, false)", () -> x.landings(8, false), 4);
        due("landings(8, true)", () -> x.landings(8, true), 0);
        index("landings(9, true)", () -> x.landings(9, true));
        noJump("landings(0, true)", () -> x.landings(0, true));
        // kind 0 without one; PLACES that are no ORDERS are left out; what is ODD lands by KIND
        JumpFence y = with("entry 0 point c1 at 39;point c1 at 2;through c1;entry 0 set c2 = c1 + 0;through c2;stop");
        due("landings(2, false)", () -> y.landings(2, false), 9);
        due("landings(2, true)", () -> y.landings(2, true), 4);
        due("landings(4, true)", () -> y.landings(4, true), 9);
        // the way to a back goes over call and by to the next ORDER, by both ways of if, and by through
        JumpFence z = with("call 3;call 6;stop;if 1 < 2 jump 5;call 39;back;point c1 at 8;through c1;back;call 8");
        due("landings(5, false)", () -> z.landings(5, false), 2 + 4 + 32);
        due("landings(5, true)", () -> z.landings(5, true), 2);
        due("landings(8, true)", () -> z.landings(8, true), 4);
        JumpFence w = with("call 3;by c1;stop;back;stop");
        put(w, "point c1 at 3;point c1 at 4");
        w.load();
        due("landings(3, true) of a back that is landed at", () -> w.landings(3, true), 6);
        promise(10);
        due("lets(1) of GRADE 0", () -> x.lets(1), 511);
        x.grade(1, 1);
        due("lets(1) of GRADE 1", () -> x.lets(1), 160);
        x.grade(1, 2);
        due("lets(1) of GRADE 2", () -> x.lets(1), 32);
        x.grade(1, 3);
        due("lets(1) of GRADE 3", () -> x.lets(1), 32);
        x.grade(6, 3);
        due("lets(6) of GRADE 3", () -> x.lets(6), 4);
        x.grade(8, 3);
        due("lets(8) of GRADE 3", () -> x.lets(8), 0);
        index("lets(-1)", () -> x.lets(-1));
        noJump("lets(2)", () -> x.lets(2));
        JumpFence full = with(many("back", 40));
        due("lets(0) of 40 ORDERS", () -> full.lets(0), (1L << 40) - 1);
    }

    private static void holdsAndOdd() {
        promise(11);
        JumpFence x = with("set c3 = c2;set c2 = c1;point c1 at 39;point c2 at 1;set c1 = c3;set c4 = c1 + 1;set c5 = c4",
                "set c6 = 7;point c6 at 0");
        long all = 1L << 39 | 2;
        due("holds(1)", () -> x.holds(1), all);
        due("holds(2)", () -> x.holds(2), all);
        due("holds(3)", () -> x.holds(3), all);
        due("holds(4)", () -> x.holds(4), 0);
        due("holds(5)", () -> x.holds(5), 0);
        due("holds(6)", () -> x.holds(6), 1);
        due("holds(15)", () -> x.holds(15), 0);
        index("holds(16)", () -> x.holds(16));
        index("holds(-1)", () -> x.holds(-1));
        promise(12);
        due("odd(1)", () -> x.odd(1), false);
        due("odd(3)", () -> x.odd(3), false);
        due("odd(4)", () -> x.odd(4), true);
        due("odd(5)", () -> x.odd(5), true);
        due("odd(6)", () -> x.odd(6), true);
        index("odd(16)", () -> x.odd(16));
        index("odd(-1)", () -> x.odd(-1));
        put(x, "set c2 = c5");
        x.load();
        due("odd(1) with a part more", () -> x.odd(1), true);
        due("odd(3) with a part more", () -> x.odd(3), true);
        due("odd(0)", () -> x.odd(0), false);
    }

    private static void bends() {
        promise(13);
        JumpFence x = with("door c0;door c0;stop");
        index("bend(-1, 17, 0)", () -> x.bend(-1, 17, 0));
        index("bend(0, -1, 0)", () -> x.bend(0, -1, 0));
        argument("bend(300, 0, 0)", () -> x.bend(300, 0, 0));
        argument("bend(-1, 16, 0)", () -> x.bend(-1, 16, 0));
        due("bend(1, 0, 5)", () -> x.bend(1, 0, 5), 0);
        due("bend(0, 0, -7)", () -> x.bend(0, 0, -7), 1);
        due("bend(1, 0, 6)", () -> x.bend(1, 0, 6), 2);
        due("bend(299, 16, 6)", () -> x.bend(299, 16, 6), 3);
        due("said(true, 0)", () -> x.said(true, 0), -7);
        due("said(true, 1), of several at once the last one", () -> x.said(true, 1), 6);
        due("said(false, 1)", () -> x.said(false, 1), 0);
        for (int k = 4; k < 8; k++) {
            due("bend(2, 0, 2)", () -> x.bend(2, 0, 2), k);
        }
        full("bend(0, 0, 0), a 9th", () -> x.bend(0, 0, 0));
        argument("bend(300, 0, 0), a 9th", () -> x.bend(300, 0, 0));
        promise(14);
        due("straight()", x::straight, 8);
        due("straight() again", x::straight, 0);
        due("said(true, 0) then", () -> x.said(true, 0), 0);
        due("bend(0, 3, 1)", () -> x.bend(0, 3, 1), 0);
    }

    private static void runEnds() {
        promise(15);
        runs(with("jump 0"), false, 2, 300, 0, 0, 0, 0, NONE, NONE);
        runs(with("jump 39"), false, 3, 1, 0, 39, 0, 0, NONE, NONE);
        runs(with("call 0"), false, 3, 8, 0, 0, 0, 0, NONE, NONE);
        runs(with("back"), false, 3, 0, 0, 0, 0, 0, NONE, NONE);
        runs(with("door 5"), false, 3, 1, 0, 1, 1, 0, NONE, NONE);
        runs(with("set c0 = 999 * 100;set c0 = c0 + 99;set c0 = c0 + 1"), false, 3, 2, 0, 2, 0, 0, NONE, NONE);
        runs(with("set c0 = 0 - 999;set c0 = c0 * 100;set c0 = c0 - 99;set c0 = c0 - 1"), false, 3, 3, 0, 3);
        runs(with("stop;jump 0"), false, 0, 1, 0, 0, 0, 0, NONE, NONE);
        // stop is the 300th
        JumpFence x = with("if c0 = 149 jump 4;set c0 = c0 + 1;jump 0");
        runs(x, false, 2, 300);
        JumpFence y = with("jump 1;set c0 = c0 + 1;if c0 < 149 jump 1;stop");
        runs(y, false, 0, 300, 0, 3);
        JumpFence z = with("jump 1;jump 2;set c0 = c0 + 1;if c0 < 149 jump 2;stop");
        runs(z, false, 2, 300, 0, 4);
        // a SUM of one bent CELL alone, and of CELLS whose product is beyond int
        JumpFence w = with("set c1 = c0;stop");
        w.bend(0, 0, 100000);
        runs(w, true, 3, 0, 0, 0);
        runs(w, false, 0, 2, 0, 1);
        JumpFence v = with("set c1 = c0 * c0;stop");
        v.bend(0, 0, 65536);
        runs(v, true, 3, 0, 0, 0);
        // a landing that is no ORDER: a TRAP without a GUARD, else stopped; a 9th PLACE is asked ahead of a GUARD
        JumpFence u = with("through c0;stop");
        u.bend(0, 0, -77);
        runs(u, true, 3, 1, 0, -77, 0, 1, NONE, NONE);
        u.grade(0, 1);
        runs(u, true, 1, 0, 0, 0, 0, 0, 0, -77);
        JumpFence t = with("by c0");
        t.bend(8, 0, 9);
        t.grade(0, 3);
        runs(t, true, 1, 0, 0, 0, 0, 0, NONE, 0);
        t.grade(0, 0);
        runs(t, true, 3, 8, 0, 0, 0, 8, NONE, NONE);
        JumpFence s = with("entry 0 by c0");
        s.grade(0, 1);
        runs(s, true, 3, 8, 8, 0, 0, 8, NONE, NONE);
        noSuch("run(false, 8)", () -> s.run(false, 8));
        noSuch("run(true, -1)", () -> s.run(true, -1));
    }

    private static void runNumbers() {
        promise(15);
        JumpFence x = with(BASE);
        x.grade(1, 3);
        x.grade(6, 2);
        runs(x, false, 0, 6, 6, 3, 1, 2, NONE, NONE);
        promise(16);
        int[] steps = {0, 1, 5, 6, 2, 3, NONE, NONE};
        for (int k = 0; k < steps.length; k++) {
            int i = k;
            due("step(false, " + k + ")", () -> x.step(false, i), steps[k]);
        }
        due("step(false, -1)", () -> x.step(false, -1), NONE);
        due("step(true, 300)", () -> with("jump 0").step(true, 300), NONE);
        due("step(true, 299)", () -> with("jump 0").step(true, 299), 0);
        promise(17);
        due("said(false, 0)", () -> x.said(false, 0), 1);
        due("said(false, 1)", () -> x.said(false, 1), 1000000);
        due("said(false, -1)", () -> x.said(false, -1), 1000000);
        JumpFence y = with("door 3;door c0;set c0 = 2 - 5;door c0;jump 1");
        due("said(false, 2)", () -> y.said(false, 2), -3);
        due("said(false, 150)", () -> y.said(false, 150), -3);
        due("said(false, 151)", () -> y.said(false, 151), 1000000);
        promise(18);
        due("cell(false, 1)", () -> x.cell(false, 1), 5);
        due("cell(false, 2)", () -> x.cell(false, 2), 7);
        due("cell(false, 0)", () -> x.cell(false, 0), 0);
        x.bend(1, 1, 7);
        due("cell(true, 1), stopped at a GUARD", () -> x.cell(true, 1), 7);
        due("cell(true, 2)", () -> x.cell(true, 2), 0);
        index("cell(true, 16)", () -> x.cell(true, 16));
        index("cell(false, -1)", () -> x.cell(false, -1));
    }

    private static void leads() {
        promise(15);
        JumpFence x = with("point c1 at 3;set c1 = c1;through c1;stop");
        x.grade(2, 2);
        x.bend(0, 1, 3);
        runs(x, true, 0, 4);
        // the BEND of a CELL that an ORDER wrote since leads no more, though its number lives on
        x.bend(1, 1, 0);
        runs(x, true, 1, 2, 0, 2, 0, 0, NONE, 0);
        x.bend(2, 1, 1);
        runs(x, true, 1, 2, 0, 2, 0, 0, 2, 1);
        x.bend(2, 1, 2);
        runs(x, true, 1, 2, 0, 2, 0, 0, 3, 2);
        x.bend(2, 2, 2);
        due("LEAD with another CELL bent", () -> x.run(true, 6), 3);
        x.bend(2, 1, 3);
        runs(x, true, 0, 4, 2, 3, 0, 1, NONE, NONE);
        // the ROW: a PLACE that was bent ahead of another call still leads; one that is put anew does not
        JumpFence y = with("call 3;stop;stop;call 5;back;back");
        y.grade(4, 3);
        y.bend(1, 16, 2);
        runs(y, true, 1, 3, 0, 4, 0, 1, 0, 2);
        y.straight();
        y.grade(5, 1);
        y.grade(4, 0);
        y.bend(2, 16, 0);
        runs(y, true, 1, 2, 0, 5, 0, 0, 0, 0);
        y.straight();
        y.bend(0, 16, 0);
        runs(y, true, 0, 5, 1, 1, 0, 2, NONE, NONE);
        JumpFence z = with("call 3;call 3;stop;back");
        z.grade(3, 3);
        z.bend(1, 16, 1);
        runs(z, true, 0, 5, 8, 2, 0, 2, NONE, NONE);
        z.bend(3, 16, 0);
        runs(z, true, 1, 3, 4, 3, 0, 1, 1, 0);
        // the 8th PLACE of the ROW
        JumpFence full = with("set c0 = c0 + 1;if c0 > 8 jump 4;call 0;stop;back");
        full.grade(4, 1);
        runs(full, false, 0, 28, 1, 3, 0, 1, NONE, NONE);
        full.bend(26, 16, 0);
        runs(full, true, 1, 26, 0, 4, 0, 0, 0, 0);
        // GRADE 3 lets the last one of the SECOND ROW, be it an ORDER or not
        JumpFence w = with("jump 2;back;call 1");
        w.grade(1, 3);
        runs(w, false, 3, 3, 4, 3, 0, 1);
        w.grade(1, 2);
        runs(w, false, 1, 2, 0, 1, 0, 0, NONE, 3);
    }

    private static void powersAndHarms() {
        promise(19);
        JumpFence x = new JumpFence();
        argument("power(65536, true)", () -> x.power(65536, true));
        argument("power(-1, true)", () -> x.power(-1, true));
        for (int k = 0; k < 6; k++) {
            due("power(65535, false)", () -> x.power(65535, false), k);
        }
        full("power(0, true), a 7th", () -> x.power(0, true));
        argument("power(65536, true), a 7th", () -> x.power(65536, true));
        promise(20);
        argument("harm(-1)", () -> x.harm(-1));
        argument("harm(1000)", () -> x.harm(1000));
        due("harm(999)", () -> with().harm(999), 0);
        for (int k = 0; k < 8; k++) {
            int word = k * 142;
            due("harm(" + word + ")", () -> x.harm(word), k);
        }
        full("harm(1), a 9th", () -> x.harm(1));
        argument("harm(1000), a 9th", () -> x.harm(1000));
    }

    private static void reach() {
        promise(21);
        JumpFence x = with(BASE);
        index("reach(0, 0) without", () -> x.reach(0, 0));
        x.power(2, false);
        index("reach(0, 0) without HARMS", () -> x.reach(0, 0));
        x.harm(66);
        due("reach(0, 0)", () -> x.reach(0, 0), 1);
        index("reach(1, 0)", () -> x.reach(1, 0));
        index("reach(0, -1)", () -> x.reach(0, -1));
        x.grade(1, 2);
        due("reach(0, 0) with FLOW", () -> x.reach(0, 0), 0);
        // a door of a CELL may say all, but says its own number unless the CELL is bent
        reaches("door c0", 0, false, 0, 1);
        reaches("door c0", 0, false, 5, 2);
        reaches("door c0", 1, false, 5, 1);
        reaches("door c0", 2, false, 5, 2);
        reaches("door 5", 0, false, 5, 1);
        reaches("door 5", 65535, true, 6, 0);
        reaches("stop;door 5", 65535, true, 5, 0);
        reaches("door 4;door 5", 0, false, 5, 1);
        // a SUM that traps, a 9th PLACE, a CELL that is not at hand
        reaches("set c0 = 999 * 999;door 5", 65535, true, 5, 2);
        reaches("call 1;call 2;call 3;call 4;call 5;call 6;call 7;call 8;door 5", 0, false, 5, 1);
        reaches("call 1;call 2;call 3;call 4;call 5;call 6;call 7;call 8;call 9;door 5", 65535, true, 5, 2);
        reaches("point c1 at 1;point c1 at 3;through c1;door 5", 0, false, 5, 1);
        reaches("point c1 at 3;point c1 at 0;through c1;door 5", 0, false, 5, 2);
        reaches("point c1 at 3;point c1 at 0;through c1;door 5", 2, false, 5, 1);
        reaches("set c1 = 0;through c1;stop;door 5", 0, false, 5, 2);
        reaches("set c1 = 3;through c1;stop;door 5", 0, false, 5, 1);
        // a back without a PLACE
        reaches("back;door 5;call 0", 0, false, 5, 0);
        reaches("back;door 5;call 0", 0, true, 5, 2);
        reaches("jump 9;door 5", 65535, true, 5, 0);
    }

    private static void reachByIf() {
        promise(21);
        reaches("if 1 < 2 jump 2;door 5;stop", 65535, true, 5, 0);
        reaches("if 2 < 1 jump 2;door 5;stop", 65535, true, 5, 1);
        reaches("if c0 < 0 jump 2;stop;door 5", 0, false, 5, 2);
        reaches("if c0 < 0 jump 2;stop;door 5", 1, false, 5, 1);
        reaches("if c0 = 0 jump 2;door 5;stop", 2, false, 5, 2);
        reaches("if c0 = 0 jump 1;door 5", 0, false, 5, 1);
        // both ways are one: nothing is bent
        reaches("if c0 = 1 jump 1;set c2 = c0;if c2 = 0 jump 4;stop;door 5", 1, false, 5, 1);
        reaches("if c0 < c0 jump 2;stop;door 5", 1, false, 5, 2);
        reaches("if c0 = c0 jump 2;door 5;stop", 1, false, 5, 2);
        bentTo("c0 < 9", 9, true, 8);
        bentTo("c0 < 9", 20, true, 8);
        bentTo("c0 < 9", 3, true, 3);
        bentTo("c0 < 9", 3, false, 9);
        bentTo("c0 < 9", 20, false, 20);
        bentTo("c0 > 9", 1, true, 10);
        bentTo("c0 > 9", 11, false, 9);
        bentTo("c0 = 9", 1, true, 9);
        bentTo("c0 = 9", 9, false, 10);
        bentTo("9 < c0", 1, true, 10);
        bentTo("9 < c0", 12, false, 9);
        bentTo("9 > c0", 12, true, 8);
        bentTo("9 > c0", 1, false, 9);
        bentTo("9 = c0", 1, true, 9);
        bentTo("9 = c0", 9, false, 10);
        // c1 is 0 and in the POWER, too: the first ATOM is bent ahead of the second one
        bentTo("c0 > c1", 0, true, 1);
        bentTo("c1 > c0", 4, true, 4);
        bentTo("c3 < c0", 0, true, 1);
    }

    /** What c0 is behind an if that it has to go by: c2, which nobody bends, is asked for it. */
    private static void bentTo(String condition, int was, boolean jumps, int number) {
        String begin = "set c0 = " + was + ";if " + condition + (jumps ? " jump 3;stop;" : " jump 5;");
        String behind = jumps ? " jump 6;stop;door 5" : " jump 6;stop;stop;door 5";
        reaches(begin + "set c2 = c0;if c2 = " + number + behind, 3, false, 5, 1);
        reaches(begin + "set c2 = c0;if c2 = " + (number + 1) + behind, 3, false, 5, 2);
    }

    private static void reachByRows() {
        promise(21);
        // the ROW is bent: not with GRADE 3, unless that PLACE is the last one of the SECOND ROW, too
        JumpFence x = with("call 3;call 3;stop;back;door 5");
        x.power(0, true);
        x.power(0, false);
        x.harm(5);
        due("reach(0, 0)", () -> x.reach(0, 0), 1);
        due("reach(1, 0)", () -> x.reach(1, 0), 0);
        x.grade(3, 2);
        due("reach(0, 0) of GRADE 2", () -> x.reach(0, 0), 0);
        JumpFence y = with("call 4;jump 2;call 4;door 5;back");
        y.power(0, true);
        y.harm(5);
        row(y, 0, 0, 0, 4, 3);
        due("reach(0, 0)", () -> y.reach(0, 0), 1);
        y.grade(4, 1);
        due("reach(0, 0) of GRADE 1", () -> y.reach(0, 0), 1);
        y.grade(4, 3);
        due("reach(0, 0) of GRADE 3", () -> y.reach(0, 0), 2);
        row(y, 0, 0, 0, 4, 3);
        JumpFence z = with("call 2;door 5;back");
        z.power(0, true);
        z.harm(5);
        z.grade(2, 3);
        due("reach(0, 0) of GRADE 3 on its WAY", () -> z.reach(0, 0), 1);
    }

    private static void rows() {
        promise(22);
        JumpFence x = with("if c0 = 1 jump 3;jump 4;door 5;jump 5;jump 5;door 5;stop");
        x.power(0, false);
        x.harm(5);
        row(x, 0, 0, 0, 3, 5);
        due("row(0, 0, -1)", () -> x.row(0, 0, -1), NONE);
        index("row(1, 0, 0)", () -> x.row(1, 0, 0));
        index("row(0, 1, 0)", () -> x.row(0, 1, 0));
        // two doors equally far: the lesser numbers on the way, not the lesser door
        JumpFence y = with("if c0 = 1 jump 4;jump 5;stop;door 5;jump 3;door 5");
        y.power(0, false);
        y.harm(5);
        row(y, 0, 0, 0, 1, 5);
        JumpFence z = with("door 4;stop");
        z.power(0, false);
        z.harm(5);
        row(z, 0, 0);
    }

    private static void closed() {
        promise(23);
        JumpFence x = with(BASE);
        index("closed(0)", () -> x.closed(0));
        x.power(2, false);
        x.power(0, true);
        x.power(0, false);
        due("closed(0)", () -> x.closed(0), 511);
        x.grade(1, 1);
        due("closed(0) of GRADE 1", () -> x.closed(0), 511 - 16);
        x.grade(1, 2);
        due("closed(0) of GRADE 2", () -> x.closed(0), 111);
        due("closed(1)", () -> x.closed(1), 511);
        x.grade(6, 1);
        due("closed(1) of GRADE 1", () -> x.closed(1), 111);
        x.grade(1, 0);
        due("closed(2) of GRADE 0", () -> x.closed(2), 111);
        index("closed(3)", () -> x.closed(3));
        index("closed(-1)", () -> x.closed(-1));
        JumpFence y = with("point c1 at 39;set c2 = 1;through c1;through c2;stop");
        y.power(0, false);
        due("closed(0), to what is no ORDER", () -> y.closed(0), 7);
        JumpFence z = with("set c2 = 1;through c2;stop;entry 1 stop");
        z.power(0, false);
        due("closed(0) of what is ODD", () -> z.closed(0), 15);
        z.grade(1, 2);
        due("closed(0) of what is ODD by FLOW", () -> z.closed(0), 3);
        // back of GRADE 3 is not bent, but lands behind each call that FLOW knows
        JumpFence w = with("call 3;call 3;stop;back;call 39;door 1");
        w.power(0, true);
        due("closed(0) of GRADE 0", () -> w.closed(0), 63);
        w.grade(3, 1);
        due("closed(0) of GRADE 1", () -> w.closed(0), 1 + 2 + 4 + 8 + 32);
        w.grade(3, 3);
        due("closed(0) of GRADE 3", () -> w.closed(0), 15);
    }

    private static void least() {
        promise(24);
        JumpFence x = with(BASE);
        x.power(2, false);
        x.power(0, true);
        x.power(2, true);
        x.harm(66);
        x.harm(1);
        x.harm(2);
        due("least(0, 0, NONE)", () -> x.least(0, 0, NONE), 2);
        due("least(0, 0, 1)", () -> x.least(0, 0, 1), 2);
        due("least(0, 0, 6)", () -> x.least(0, 0, 6), 0);
        due("least(0, 0, 8)", () -> x.least(0, 0, 8), 0);
        due("least(0, 0, 2)", () -> x.least(0, 0, 2), NONE);
        due("least(1, 0, NONE)", () -> x.least(1, 0, NONE), 1);
        due("least(1, 0, 6)", () -> x.least(1, 0, 6), 1);
        due("least(2, 0, NONE)", () -> x.least(2, 0, NONE), 3);
        due("least(0, 2, NONE) of what is not reached", () -> x.least(0, 2, NONE), 0);
        due("least(0, 2, 1)", () -> x.least(0, 2, 1), 0);
        due("least(0, 1, NONE)", () -> x.least(0, 1, NONE), NONE);
        due("least(0, 1, 1)", () -> x.least(0, 1, 1), NONE);
        x.ticks(1, 9);
        due("least(1, 0, 6) with other TICKS", () -> x.least(1, 0, 6), 2);
        due("least(1, 0, NONE) with other TICKS", () -> x.least(1, 0, NONE), 2);
        x.ticks(3, 1);
        due("least(1, 0, 6) with GRADE 3 for back", () -> x.least(1, 0, 6), 3);
        due("least(0, 0, 1), not with GRADE 3 for by", () -> x.least(0, 0, 1), 2);
        x.ticks(3, 2);
        due("least(1, 0, 6), the least GRADE of several", () -> x.least(1, 0, 6), 2);
        index("least(3, 0, NONE)", () -> x.least(3, 0, NONE));
        index("least(0, 3, NONE)", () -> x.least(0, 3, NONE));
        index("least(0, 0, 9)", () -> x.least(0, 0, 9));
        index("least(0, 0, -2)", () -> x.least(0, 0, -2));
        due("the GRADES are as they were", () -> x.count(2), 0);
        JumpFence y = with("door 5");
        y.power(0, false);
        y.harm(5);
        due("least without JUMPS", () -> y.least(0, 0, NONE), NONE);
        // only the first 6 JUMPS are told; the 7th keeps its own
        JumpFence z = with("jump 7;back;back;back;back;back;back;through c0;door 5");
        z.power(1, false);
        z.harm(5);
        due("least of a 7th JUMP", () -> z.least(0, 0, NONE), NONE);
        z.grade(7, 1);
        due("least of a 7th JUMP with a GRADE", () -> z.least(0, 0, NONE), 0);
        due("least(0, 0, 7)", () -> z.least(0, 0, 7), NONE);
        due("least(0, 0, 6)", () -> z.least(0, 0, 6), 0);
        // of several the first JUMP has the least GRADE
        JumpFence w = with("point c0 at 2;through c0;through c1;stop;door 5");
        w.power(2, false);
        w.harm(5);
        due("least of two, one of which is enough", () -> w.least(0, 0, NONE), 1);
        due("least(0, 0, 1)", () -> w.least(0, 0, 1), 0);
        due("least(0, 0, 2)", () -> w.least(0, 0, 2), 1);
    }

    private static void marksAndJoined() {
        promise(25);
        JumpFence x = with(BASE);
        x.grade(1, 2);
        due("marks()", x::marks, 1);
        x.grade(6, 2);
        due("marks() of two that do not meet", x::marks, 2);
        x.grade(8, 1);
        due("marks() of three, of which two meet", x::marks, 2);
        x.grade(8, 2);
        due("marks() with one that lets nothing", x::marks, 3);
        promise(26);
        due("joined(16)", () -> x.joined(16), 0);
        due("joined(3)", () -> x.joined(3), 0);
        due("joined(2), the two with one heap of nothing", () -> x.joined(2), 1);
        due("joined(1)", () -> x.joined(1), 4);
        argument("joined(0)", () -> x.joined(0));
        argument("joined(17)", () -> x.joined(17));
        promise(25);
        // LETS {1, 2}, {2, 3}, {3, 4}, {5}: a chain and one alone
        JumpFence y = with("point c1 at 1;point c1 at 2;point c2 at 2;point c2 at 3;point c3 at 3;point c3 at 4",
                "point c4 at 5;through c1;through c2;through c3;through c4");
        for (int k = 7; k <= 10; k++) {
            y.grade(k, 2);
        }
        due("marks() of a chain", y::marks, 2);
        promise(26);
        due("joined(2) of a chain", () -> y.joined(2), 6);
        due("joined(1) of a chain", () -> y.joined(1), 3 + 3 + 3 + 4);
        // the first 6 alone are joined
        JumpFence z = with(many("back", 6) + ";point c1 at 7;point c1 at 8;through c1;call 9;stop");
        for (int k = 0; k < 6; k++) {
            z.grade(k, 1);
        }
        z.grade(8, 2);
        due("joined(1) of the first 6", () -> z.joined(1), 0);
        z.grade(0, 0);
        due("joined(1) of other 6", () -> z.joined(1), 5 * 2 + 1);
        // three heaps at most: which ones are together hangs on how much they have
        JumpFence w = with("point c1 at 0;point c2 at 1;point c3 at 2;point c3 at 3;point c3 at 4",
                "through c1;through c2;through c3");
        for (int k = 5; k <= 7; k++) {
            w.grade(k, 3);
        }
        due("joined(2) of {0} {1} {2 3 4}", () -> w.joined(2), 2);
        due("joined(1) of {0} {1} {2 3 4}", () -> w.joined(1), 4 + 4 + 2);
    }

    private static void fence() {
        promise(27);
        JumpFence x = with(BASE);
        index("fence(0, 1, 0, 0)", () -> x.fence(0, 1, 0, 0));
        x.power(2, false);
        due("fence(7, 8, 0, 0)", () -> x.fence(7, 8, 0L, 0), 1);
        x.grade(1, 2);
        due("fence(7, 8, 0, 0) by FLOW", () -> x.fence(7, 8, 0L, 0), NONE);
        x.grade(1, 1);
        due("fence(7, 8, 128, 0)", () -> x.fence(7, 8, 128L, 0), NONE);
        due("fence(5, 8, 128, 0)", () -> x.fence(5, 8, 128L, 0), 1);
        due("fence(5, 8, 160, 0)", () -> x.fence(5, 8, 160L, 0), NONE);
        due("fence(1, 1, 0, 0)", () -> x.fence(1, 1, 0L, 0), 0);
        due("fence(0, 8, 0, 0), nothing outside", () -> x.fence(0, 8, 0L, 0), NONE);
        due("fence(8, 8, 0, 0)", () -> x.fence(8, 8, 0L, 0), 7);
        due("fence(8, 8, -1, 0)", () -> x.fence(8, 8, -1L, 0), NONE);
        due("fence(2, 3, 0, 0)", () -> x.fence(2, 3, 0L, 0), 6);
        index("fence(9, 0, 0, 0)", () -> x.fence(9, 0, 0L, 0));
        index("fence(0, 9, 0, 0)", () -> x.fence(0, 9, 0L, 0));
        index("fence(-1, 0, 0, 0)", () -> x.fence(-1, 0, 0L, 0));
        index("fence(3, 2, 0, 1)", () -> x.fence(3, 2, 0L, 1));
        argument("fence(3, 2, 0, 0)", () -> x.fence(3, 2, 0L, 0));
        // an ORDER that is not CLOSED leads nowhere
        JumpFence y = with("stop;jump 2;stop");
        y.power(65535, true);
        due("fence(2, 2, 0, 0)", () -> y.fence(2, 2, 0L, 0), NONE);
    }

    private static void late() {
        promise(28);
        JumpFence x = with("call 3;call 3;jump 0;back");
        due("late(1) without a GRADE", () -> x.late(1), NONE);
        x.grade(3, 1);
        due("late(1) without a BAD one", () -> x.late(1), NONE);
        x.bend(4, 16, 2);
        x.grade(3, 2);
        due("late(1) with a BEND that FLOW lets", () -> x.late(1), NONE);
        x.straight();
        x.bend(1, 16, 2);
        x.grade(3, 3);
        due("late(1)", () -> x.late(1), 0);
        due("late(2)", () -> x.late(2), 1);
        due("late(7)", () -> x.late(7), 6);
        due("late(20)", () -> x.late(20), 19);
        x.straight();
        x.bend(3, 16, 0);
        due("late(2), the second one being BAD", () -> x.late(2), 0);
        due("late(3), the second one being BAD", () -> x.late(3), 1);
        JumpFence y = with("call 2;stop;back");
        y.grade(2, 1);
        y.bend(1, 16, 0);
        due("late(20), found at the end", () -> y.late(20), 1);
        due("run(true, 0) is stopped by it", () -> y.run(true, 0), 1);
        argument("late(0)", () -> y.late(0));
        argument("late(21)", () -> y.late(21));
    }

    private static void judge() {
        promise(29);
        JumpFence x = with(BASE);
        record(x, NONE);
        record(x, NONE, 0, 1, 5, 6, 2, 3);
        record(x, NONE, 0, 1, 5);
        record(x, 6, 0, 1, 5, 6, 2, 3, 3);
        record(x, 0, 1);
        record(x, 2, 0, 1, 7);
        record(x, 2, 0, 1, 255);
        x.bend(1, 1, 7);
        record(x, NONE, 0, 1, 7, 8, 2, 3);
        record(x, 2, 0, 1, 5);
        x.grade(1, 2);
        record(x, 1, 0, 1, 7);
        due("fault() is not touched", x::fault, NONE);
    }

    private static void imageAndBack() {
        promise(31);
        JumpFence x = with("call 2;stop;back");
        due("back() without", x::back, false);
        x.grade(2, 1);
        x.bend(1, 16, 0);
        x.power(1, true);
        x.harm(5);
        x.ticks(1, 7);
        promise(30);
        x.image();
        x.straight();
        x.bend(0, 0, 0);
        x.bend(0, 0, 0);
        x.grade(2, 3);
        x.ticks(1, 8);
        x.power(3, false);
        x.harm(6);
        put(x, "entry 0 point c1 at 0;set c0 = 5;set c15 = 5");
        x.load();
        put(x, "bad");
        argument("load()", x::load);
        put(x, "stop");
        promise(31);
        due("back()", x::back, true);
        due("end(4): the TAPE stays", () -> x.end(4), true);
        due("fault() stays", x::fault, 0);
        int[] dues = {3, 1, 1, 1, 1, 1, 0, 0};
        for (int k = 0; k < dues.length; k++) {
            int what = k;
            due("count(" + k + ")", () -> x.count(what), dues[k]);
        }
        due("order(2, 2)", () -> x.order(2, 2), 1);
        due("holds(1)", () -> x.holds(1), 0);
        due("odd(0)", () -> x.odd(0), false);
        due("odd(15)", () -> x.odd(15), false);
        due("run(true, 0)", () -> x.run(true, 0), 1);
        x.straight();
        due("run(true, 2)", () -> x.run(true, 2), 7);
        due("back() again", x::back, true);
        due("count(3)", () -> x.count(3), 1);
        due("load()", x::load, 4);
        promise(30);
        x.image();
        x.straight();
        due("back()", x::back, true);
        due("count(0) of a later IMAGE", () -> x.count(0), 4);
        due("count(3) of a later IMAGE", () -> x.count(3), 1);
    }

    /** All places for ORDERS are used. */
    private static void forty() {
        JumpFence x = with(many("entry 1 back", 20), many("entry 1 by c1", 20));
        promise(32);
        int[] dues = {40, 40, 0, 0, 0, 0, 40, 0, 0, 0, NONE};
        for (int k = 0; k < dues.length; k++) {
            int what = k;
            due("count(" + k + ")", () -> x.count(what), dues[k]);
        }
        x.power(65535, true);
        x.harm(1);
        promise(23);
        due("closed(0)", () -> x.closed(0), (1L << 40) - 1);
        promise(9);
        due("landings(0, false)", () -> x.landings(0, false), (1L << 40) - (1L << 21));
        due("landings(39, false)", () -> x.landings(39, false), 0);
        promise(27);
        due("fence(39, 39, 0, 0)", () -> x.fence(39, 39, 0L, 0), 0);
        promise(24);
        due("least(0, 0, NONE)", () -> x.least(0, 0, NONE), 0);
        promise(21);
        due("reach(0, 0)", () -> x.reach(0, 0), 0);
        promise(25);
        for (int k = 0; k < 40; k++) {
            x.grade(k, 1);
        }
        due("marks(), 20 that meet and 20 that let nothing", x::marks, 21);
        promise(26);
        due("joined(1)", () -> x.joined(1), 0);
        promise(22);
        JumpFence y = with(many("door 1", 39) + ";door 2");
        y.power(0, false);
        y.harm(2);
        due("row(0, 0, 39)", () -> y.row(0, 0, 39), 39);
        due("row(0, 0, 40)", () -> y.row(0, 0, 40), NONE);
        due("reach(0, 0)", () -> y.reach(0, 0), 1);
        promise(24);
        due("least(0, 0, NONE) without JUMPS", () -> y.least(0, 0, NONE), NONE);
        promise(27);
        due("fence(0, 38, -1, 0)", () -> y.fence(0, 38, -1L, 0), NONE);
        due("fence(39, 39, 0, 0)", () -> y.fence(39, 39, 0L, 0), 38);
    }

    private static void count() {
        promise(32);
        JumpFence x = with(BASE, "set c3 = c2;set c4 = c1");
        x.grade(1, 2);
        x.grade(8, 1);
        x.bend(0, 0, 0);
        x.power(2, false);
        x.power(0, true);
        x.power(0, false);
        x.harm(66);
        x.harm(1);
        int[] dues = {11, 3, 2, 1, 3, 2, 3, 2, 2, 4};
        for (int k = 0; k < dues.length; k++) {
            int what = k;
            due("count(" + k + ")", () -> x.count(what), dues[k]);
        }
        put(x, "entry 1 back;bad");
        argument("load()", x::load);
        due("count(6) behind a wrong text", () -> x.count(6), 3);
        due("count(1) behind a wrong text", () -> x.count(1), 3);
        due("count(10)", () -> x.count(10), NONE);
        due("count(-1)", () -> x.count(-1), NONE);
    }
}
