import java.util.function.Function;

/** The calls of the face: what they answer at their bounds, what they refuse, and that this changes nothing. */
final class CallEdges extends Edges {
    /** JUMPS of each word (1, 4, 5), and ORDERS that are none. */
    private static final String TEXT = "point c0 at 4;by c0 kind 1;call 5;door c1;entry 1 through c0;back;set c2 = 7";
    private static final int[] JUMPS = {1, 4, 5};
    private static final int ORDERS = 7;
    private static final int ALL_CELLS = 65535;

    static void manyCalls() {
        sentence("An object is used for at most 512 calls after it has been made; what later calls answer is free.");
        JumpFence x = with("door c0;stop");
        for (int k = 0; k < 250; k++) {
            x.bend(0, 0, k);
            x.straight();
        }
        x.bend(0, 0, 77);
        due("said(true, 0), one of the last calls", () -> x.said(true, 0), 77);
        JumpFence y = with(many("through c0", 20), many("entry 1 back", 20));
        fill(y);
        for (int k = 0; k < 440; k++) {
            y.count(8);
        }
        due("count(8), one of the last calls", () -> y.count(8), 48);
        due("least(5, 7, NONE), one of the last calls", () -> y.least(5, 7, NONE), 0);
        for (int k = 0; k < 100; k++) {
            due("a call whose answer is free", () -> x.run(true, 0) >= 0, true);
        }
    }

    static void exceptions() {
        severalExceptions();
        nothingChanges();
        nothingChangesByAsking();
        noSuchThing();
        noJumps();
    }

    // ---- exceptions

    private static void fill(JumpFence x) {
        for (int k = 0; k < 8; k++) {
            x.bend(k, k, 2 * k);
            x.harm(k);
        }
        for (int k = 0; k < 6; k++) {
            x.power(1 << k, k % 2 == 0);
        }
    }

    /** An object with all rooms for BENDS, POWERS and HARMS full, an IMAGE of less, and a text on the TAPE. */
    private static JumpFence filled() {
        JumpFence x = graded(with(TEXT), 1, 1);
        x.image();
        x.grade(1, 2);
        x.grade(5, 3);
        x.ticks(1, 11);
        x.ticks(2, 12);
        x.ticks(3, 13);
        fill(x);
        put(x, "door 7;stop");
        return x;
    }

    /** What can be asked for without a change, in some 200 calls. */
    private static String asks(JumpFence x) {
        StringBuilder t = new StringBuilder();
        for (int k = 0; k < 10; k++) {
            t.append(x.count(k)).append(' ');
        }
        for (int k = 0; k < ORDERS; k++) {
            int order = k;
            t.append(x.order(k, 0)).append(' ').append(x.order(k, 1)).append(' ').append(x.order(k, 2)).append(' ');
            t.append(answer(() -> x.landings(order, true))).append(answer(() -> x.lets(order))).append(' ');
        }
        for (int k = 0; k < 16; k++) {
            t.append(x.holds(k)).append(x.odd(k)).append(x.cell(true, k)).append(' ');
        }
        for (int k = 0; k < 8; k++) {
            t.append(x.run(false, k)).append(' ').append(x.run(true, k)).append(' ').append(x.step(true, k)).append(' ');
            t.append(x.reach(k % 6, k)).append(' ').append(x.row(0, k, 2)).append(' ');
        }
        t.append(x.closed(0)).append(' ').append(x.closed(5)).append(' ').append(x.least(0, 0, NONE)).append(' ');
        t.append(x.marks()).append(' ').append(x.joined(1)).append(' ').append(x.fence(4, 5, 16, 0)).append(' ');
        t.append(x.late(3)).append(' ').append(x.said(true, 0));
        return t.toString();
    }

    /** What only a change brings to light: the TAPE, TICKS, BENDS that come anew, and THE IMAGE. */
    private static String tries(JumpFence x) {
        StringBuilder t = new StringBuilder();
        t.append(x.fault()).append(' ').append(x.end(12)).append(' ').append(x.end(11)).append(' ');
        t.append(x.load()).append(' ').append(x.order(7, 0)).append(' ').append(x.order(8, 0)).append(' ');
        t.append(x.straight()).append(' ').append(x.bend(0, 0, 0)).append(' ');
        for (int grade = 1; grade <= 3; grade++) {
            x.grade(1, grade);
            t.append(x.run(false, 2)).append(' ');
        }
        t.append(x.back()).append(' ').append(x.count(0)).append(' ').append(x.order(1, 2)).append(' ');
        return t.append(x.count(3)).append(x.count(4)).append(x.count(5)).toString();
    }

    private static void changesNothing(String call, String exception, Function<JumpFence, Object> refused) {
        JumpFence x = filled();
        refused(call, exception, () -> refused.apply(x));
        due("what is asked behind " + call, () -> asks(x), asks(filled()));
        due("what is tried behind " + call, () -> tries(x), tries(filled()));
    }

    private static void severalExceptions() {
        sentence("Of several exceptions the one told first is thrown;");
        JumpFence x = filled();
        index("order(7, 5)", () -> x.order(7, 5));
        index("grade(7, 4)", () -> x.grade(7, 4));
        index("grade(-1, -1)", () -> x.grade(-1, -1));
        noJump("grade(0, 4)", () -> x.grade(0, 4));
        noJump("grade(6, -1)", () -> x.grade(6, -1));
        index("landings(7, true)", () -> x.landings(7, true));
        index("lets(-1)", () -> x.lets(-1));
        // there are 8 BENDS, 6 POWERS, 8 HARMS already
        index("bend(300, 17, 0)", () -> x.bend(300, 17, 0));
        index("bend(0, 17, 0)", () -> x.bend(0, 17, 0));
        index("bend(-1, -1, 0)", () -> x.bend(-1, -1, 0));
        argument("bend(300, 16, 0)", () -> x.bend(300, 16, 0));
        full("bend(299, 16, 0)", () -> x.bend(299, 16, 0));
        argument("power(65536, true)", () -> x.power(65536, true));
        full("power(65535, true)", () -> x.power(65535, true));
        argument("harm(1000)", () -> x.harm(1000));
        full("harm(999)", () -> x.harm(999));
        index("fence(7, 0, 0, 0)", () -> x.fence(7, 0, 0L, 0));
        index("fence(0, -1, 0, 0)", () -> x.fence(0, -1, 0L, 0));
        index("fence(1, 0, 0, 6)", () -> x.fence(1, 0, 0L, 6));
        argument("fence(1, 0, 0, 5)", () -> x.fence(1, 0, 0L, 5));
    }

    private static void nothingChanges() {
        sentence("a call that throws changes nothing but the TAPE, where it is used up, and fault(), where a text is read"
                + " (also by one that is refused).");
        String index = "IndexOutOfBoundsException";
        String argument = "IllegalArgumentException";
        String cast = "ClassCastException";
        String full = "UnsupportedOperationException";
        String none = "NoSuchElementException";
        changesNothing("order(7, 0)", index, x -> x.order(7, 0));
        changesNothing("order(0, 5)", none, x -> x.order(0, 5));
        changesNothing("grade(7, 1)", index, x -> x.grade(7, 1));
        changesNothing("grade(0, 1)", cast, x -> x.grade(0, 1));
        changesNothing("grade(1, 4)", argument, x -> x.grade(1, 4));
        changesNothing("grade(5, -1)", argument, x -> x.grade(5, -1));
        changesNothing("ticks(1, 100)", argument, x -> ticksOf(x, 1, 100));
        changesNothing("ticks(2, 0)", argument, x -> ticksOf(x, 2, 0));
        changesNothing("ticks(4, 5)", argument, x -> ticksOf(x, 4, 5));
        changesNothing("ticks(0, 5)", argument, x -> ticksOf(x, 0, 5));
        changesNothing("landings(7, true)", index, x -> x.landings(7, true));
        changesNothing("landings(0, true)", cast, x -> x.landings(0, true));
        changesNothing("lets(7)", index, x -> x.lets(7));
        changesNothing("lets(0)", cast, x -> x.lets(0));
        changesNothing("holds(16)", index, x -> x.holds(16));
        changesNothing("odd(16)", index, x -> x.odd(16));
        changesNothing("bend(0, 17, 9)", index, x -> x.bend(0, 17, 9));
        changesNothing("bend(300, 0, 9)", argument, x -> x.bend(300, 0, 9));
        changesNothing("bend(0, 0, 9)", full, x -> x.bend(0, 0, 9));
        changesNothing("run(true, 8)", none, x -> x.run(true, 8));
        changesNothing("cell(true, 16)", index, x -> x.cell(true, 16));
        changesNothing("power(65536, true)", argument, x -> x.power(65536, true));
        changesNothing("power(0, true)", full, x -> x.power(0, true));
        changesNothing("harm(1000)", argument, x -> x.harm(1000));
        changesNothing("harm(0)", full, x -> x.harm(0));
        changesNothing("reach(6, 0)", index, x -> x.reach(6, 0));
        changesNothing("row(0, 8, 0)", index, x -> x.row(0, 8, 0));
        changesNothing("closed(6)", index, x -> x.closed(6));
        changesNothing("least(0, 0, 7)", index, x -> x.least(0, 0, 7));
        changesNothing("joined(0)", argument, x -> x.joined(0));
        changesNothing("fence(0, 7, 0, 0)", index, x -> x.fence(0, 7, 0L, 0));
        changesNothing("fence(2, 1, 0, 0)", argument, x -> x.fence(2, 1, 0L, 0));
        changesNothing("late(21)", argument, x -> x.late(21));
        refusedWithRoom();
        refusedLoads();
    }

    /** Where there is room, a refused BEND, POWER or HARM takes no number. */
    private static void refusedWithRoom() {
        JumpFence x = new JumpFence();
        index("bend(0, 17, 9)", () -> x.bend(0, 17, 9));
        argument("bend(-1, 0, 9)", () -> x.bend(-1, 0, 9));
        argument("power(-1, true)", () -> x.power(-1, true));
        argument("harm(-1)", () -> x.harm(-1));
        counts(x, 0, 0, 0, 0, 0, 0);
        due("bend(0, 16, 9)", () -> x.bend(0, 16, 9), 0);
        due("power(1, true)", () -> x.power(1, true), 0);
        due("harm(1)", () -> x.harm(1), 0);
    }

    /** A wrong text uses the TAPE up and tells its fault; all else is as it was, also where it was right at first. */
    private static void refusedLoads() {
        String[] texts = {"foo", "entry 1 through c3;set c0 = 5;point c1 at 2;back;foo", "door 1;",
            many("entry 0 back", 30).substring(0, 383) + ";", many("by c0", 34)};
        int[] faults = {0, 49, 7, 383, 198};
        for (int k = 0; k < texts.length; k++) {
            JumpFence x = filled();
            x.end(0);
            put(x, texts[k]);
            argument("load() of '" + texts[k] + "'", x::load);
            due("fault()", x::fault, faults[k]);
            due("end(1) of a TAPE that is used up", () -> x.end(1), false);
            due("what is asked behind '" + texts[k] + "'", () -> asks(x), asks(filled()));
            due("load() of nothing", x::load, ORDERS);
            due("fault() of nothing", x::fault, NONE);
            put(x, "door 7;stop");
            due("what is tried behind '" + texts[k] + "'", () -> tries(x), tries(filled()));
        }
        // a call that is no load, refused or not, leaves fault() alone
        JumpFence x = with("stop");
        put(x, "jump 40");
        argument("load()", x::load);
        index("order(1, 0)", () -> x.order(1, 0));
        put(x, "?");
        due("judge()", x::judge, 0);
        due("fault()", x::fault, 5);
    }

    private static void nothingChangesByAsking() {
        JumpFence x = filled();
        String first = asks(x);
        due("what is asked a second time", () -> asks(x), first);
        due("what is tried then", () -> tries(x), tries(filled()));
    }

    private static void noSuchThing() {
        sentence("IndexOutOfBoundsException: there is no such ORDER, CELL, POWER, HARM.");
        for (int k : outside(0, ORDERS - 1)) {
            JumpFence x = filled();
            index("order(" + k + ", 0)", () -> x.order(k, 0));
            index("grade(" + k + ", 1)", () -> x.grade(k, 1));
            index("landings(" + k + ", true)", () -> x.landings(k, true));
            index("landings(" + k + ", false)", () -> x.landings(k, false));
            index("lets(" + k + ")", () -> x.lets(k));
            index("fence(" + k + ", 6, 0, 0)", () -> x.fence(k, 6, 0L, 0));
            index("fence(0, " + k + ", 0, 0)", () -> x.fence(0, k, 0L, 0));
            if (k != NONE) {
                index("least(0, 0, " + k + ")", () -> x.least(0, 0, k));
            }
        }
        for (int k : outside(0, 15)) {
            JumpFence x = filled();
            index("holds(" + k + ")", () -> x.holds(k));
            index("odd(" + k + ")", () -> x.odd(k));
            index("cell(true, " + k + ")", () -> x.cell(true, k));
            index("cell(false, " + k + ")", () -> x.cell(false, k));
        }
        for (int k : outside(0, 16)) {
            index("bend(0, " + k + ", 0)", () -> filled().bend(0, k, 0));
        }
        JumpFence few = with("stop");
        few.power(1, true);
        few.power(2, true);
        few.harm(1);
        noSuchPower(few, outside(0, 1));
        noSuchPower(filled(), outside(0, 5));
        noSuchHarm(few, outside(0, 0));
        noSuchHarm(filled(), outside(0, 7));
        // without any
        JumpFence none = new JumpFence();
        index("order(0, 0)", () -> none.order(0, 0));
        index("closed(0)", () -> none.closed(0));
        none.power(0, false);
        index("reach(0, 0)", () -> none.reach(0, 0));
        index("fence(0, 0, 0, 0)", () -> none.fence(0, 0, 0L, 0));
        // the first and the last one are there
        JumpFence x = filled();
        due("order(6, 0)", () -> x.order(6, 0), 0);
        due("holds(15)", () -> x.holds(15), 0);
        due("closed(5)", () -> x.closed(5) > 0, true);
        due("reach(5, 7)", () -> x.reach(5, 7) >= 0, true);
    }

    private static void noSuchPower(JumpFence x, int[] powers) {
        for (int k : powers) {
            index("reach(" + k + ", 0)", () -> x.reach(k, 0));
            index("row(" + k + ", 0, 0)", () -> x.row(k, 0, 0));
            index("closed(" + k + ")", () -> x.closed(k));
            index("least(" + k + ", 0, NONE)", () -> x.least(k, 0, NONE));
            index("fence(0, 0, 0, " + k + ")", () -> x.fence(0, 0, 0L, k));
        }
    }

    private static void noSuchHarm(JumpFence x, int[] harms) {
        for (int k : harms) {
            index("reach(0, " + k + ")", () -> x.reach(0, k));
            index("row(0, " + k + ", 0)", () -> x.row(0, k, 0));
            index("least(0, " + k + ", NONE)", () -> x.least(0, k, NONE));
        }
    }

    private static void noJumps() {
        sentence("ClassCastException: the ORDER is no JUMP.");
        JumpFence x = with(TEXT + ";jump 0;if 1 < 2 jump 0;stop");
        for (int k = 0; k < 10; k++) {
            int order = k;
            if (k != 1 && k != 4 && k != 5) {
                noJump("grade(" + k + ", 0)", () -> x.grade(order, 0));
                noJump("landings(" + k + ", false)", () -> x.landings(order, false));
                noJump("landings(" + k + ", true)", () -> x.landings(order, true));
                noJump("lets(" + k + ")", () -> x.lets(order));
            } else {
                due("grade(" + k + ", 0)", () -> x.grade(order, 0), false);
                due("lets(" + k + ")", () -> x.lets(order), 1023);
            }
        }
    }

    // ---- promises

    static void promises() {
        newObject();
        feed();
        end();
        load();
        fault();
        order();
        grade();
        ticks();
        landingsAndLets();
        holdsAndOdd();
        bend();
        run();
        stepSaidCell();
        powerAndHarm();
        reachAndRow();
        closedAndLeast();
        marksAndJoined();
        fenceAndLate();
        judge();
        imageAndBack();
        count();
    }

    private static void newObject() {
        sentence("No ORDERS, POWERS, HARMS, BENDS.");
        JumpFence x = new JumpFence();
        counts(x, 0, 0, 0, 0, 0, 0, 0, 0, 0, 0);
        due("straight()", x::straight, 0);
        due("late(1)", () -> x.late(1), NONE);
        due("end(1)", () -> x.end(1), false);
        // another object has nothing of this one
        fill(x);
        put(x, TEXT);
        x.load();
        JumpFence y = new JumpFence();
        counts(y, 0, 0, 0, 0, 0, 0, 0, 0, 0, 0);
        due("back()", y::back, false);
    }

    private static void feed() {
        sentence("Twenty bytes come behind the TAPE, of each number the highest first: how many it has; NONE, and none"
                + " come, if it would have more than 400.");
        JumpFence x = with(many("door 1", 20));
        due("feed", () -> x.feed(0x00010203, 0x04050607, 0x08090a0b, 0x0c0d0e0f, 0x10111213), 20);
        due("judge()", x::judge, NONE);
        for (int k = 0; k < 20; k++) {
            int[] n = {0x00010203, 0x04050607, 0x08090a0b, 0x0c0d0e0f, 0x10111213};
            n[k / 4] ^= 0x80 << 24 - 8 * (k % 4);
            x.feed(n[0], n[1], n[2], n[3], n[4]);
            due("judge() with byte " + k + " another one", x::judge, k);
        }
        // behind what is there
        x.feed(0x00010203, 0x04050607, 0x08090a0b, 0x0c0d0e0f, 0x10111213);
        x.end(3);
        due("feed behind 3", () -> x.feed(0x03040506, 0x0708090a, 0x0b0c0d0e, 0x0f101112, 0x13000000), 23);
        x.end(20);
        due("judge() of both", x::judge, NONE);
        for (int b : new int[] {LOWEST, HIGHEST, -1}) {
            due("feed(" + b + ", ..)", () -> x.feed(b, b, b, b, b), 20);
            due("judge()", x::judge, 0);
        }
        // 380 and 381 are there, 400 and less
        JumpFence y = new JumpFence();
        for (int k = 1; k <= 20; k++) {
            due("feed", () -> y.feed(0x20202020, 0x20202020, 0x20202020, 0x20202020, 0x20202020), 20 * k);
        }
        due("feed behind 400", () -> y.feed(0, 0, 0, 0, 0), NONE);
        due("end(400)", () -> y.end(400), true);
        for (int n = 399; n > 380; n--) {
            int there = n;
            y.end(n);
            due("feed behind " + n, () -> y.feed(0, 0, 0, 0, 0), NONE);
            due("end(" + (n + 1) + "), none came", () -> y.end(there + 1), false);
        }
        due("end(380)", () -> y.end(380), true);
        due("feed behind 380", () -> y.feed(0x20202020, 0x20202020, 0x20202020, 0x20202020, 0x73746f70), 400);
        due("load() of 400", y::load, 1);
        due("feed of a TAPE that was used up", () -> y.feed(0, 0, 0, 0, 0), 20);
    }

    private static void end() {
        sentence("The TAPE has its first n bytes alone: true; false, and nothing happens, if it has fewer, or n is below 0.");
        JumpFence x = new JumpFence();
        due("end(0) of an empty TAPE", () -> x.end(0), true);
        for (int n : outside(0, 0)) {
            due("end(" + n + ") of an empty TAPE", () -> x.end(n), false);
        }
        put(x, "stop;stop;foo");
        for (int n : outside(0, 13)) {
            due("end(" + n + ") of 13", () -> x.end(n), false);
        }
        due("end(13) of 13", () -> x.end(13), true);
        due("end(9)", () -> x.end(9), true);
        due("end(10), it has fewer", () -> x.end(10), false);
        due("load()", x::load, 2);
        put(x, "stop");
        due("end(0)", () -> x.end(0), true);
        due("load() of what is empty", x::load, 2);
        // what was cut off does not come back
        put(x, "stop;stop");
        x.end(4);
        due("feed behind 4", () -> x.feed(0x20202020, 0x20202020, 0x20202020, 0x20202020, 0x20202020), 24);
        due("load()", x::load, 3);
    }

    private static void load() {
        sentence("Uses the TAPE up: a part is loaded behind what is there: how many ORDERS there are then."
                + " IllegalArgumentException: the text is wrong.");
        JumpFence x = new JumpFence();
        due("load() of nothing", x::load, 0);
        put(x, "stop;back");
        due("load()", x::load, 2);
        due("end(1)", () -> x.end(1), false);
        due("load() again", x::load, 2);
        graded(x, 2, 1);
        put(x, "jump 7");
        due("load() of a part more", x::load, 3);
        due("order(0, 0)", () -> x.order(0, 0), 9);
        due("order(1, 2)", () -> x.order(1, 2), 2);
        due("order(2, 4)", () -> x.order(2, 4), 7);
        put(x, "entry 2 back;foo");
        argument("load() of a wrong text", x::load);
        due("end(1)", () -> x.end(1), false);
        counts(x, 3, 1, 1, 0, 0, 0, 0);
        put(x, "jump 8");
        due("load() behind a wrong text", x::load, 4);
        due("order(3, 0)", () -> x.order(3, 0), 2);
        due("order(3, 1)", () -> x.order(3, 1), NONE);
        nothingIsLeft();
    }

    /** Nothing of a wrong text is left in what comes behind it. */
    private static void nothingIsLeft() {
        String[] wrong = {"entry 3 by c15 kind 3", "set c13 = c12 * 999", "point c14 at 39", "if c1 < c2 jump 39",
            "entry 2 through c3 kind 1", "door c9"};
        String[] right = {"back", "through c0", "stop", "jump 1", "set c1 = 5", "set c2 = c3"};
        for (String text : wrong) {
            JumpFence y = with("jump 7");
            for (String body : right) {
                put(y, text + ";foo");
                argument("load() of a wrong text", y::load);
                put(y, body);
                int order = y.count(0);
                due("load() of " + body, y::load, order + 1);
                due("entry of " + body, () -> y.order(order, 1), NONE);
                due("GRADE of " + body, () -> y.order(order, 2), 0);
                due("KIND of " + body, () -> y.order(order, 3), 0);
                due("PLACE of " + body, () -> y.order(order, 4), body.equals("jump 1") ? 1 : NONE);
            }
            put(y, "stop");
            y.load();
            due("holds(14)", () -> y.holds(14), 0);
            due("count(7)", () -> y.count(7), 1);
            due("odd(1)", () -> y.odd(1), true);
            JumpFence z = with("jump 1");
            put(z, text + ";" + text + ";foo");
            argument("load() of a wrong text", z::load);
            put(z, "set c1 = 5;set c2 = c3;stop");
            z.load();
            z.bend(0, 3, 9);
            due("cell(true, 1)", () -> z.cell(true, 1), 5);
            due("cell(true, 2)", () -> z.cell(true, 2), 9);
        }
    }

    private static void fault() {
        sentence("The first wrong byte of the latest text that was read; NONE without one, and ahead of any.");
        JumpFence x = new JumpFence();
        due("fault() ahead of any", x::fault, NONE);
        x.load();
        due("fault() of an empty text", x::fault, NONE);
        put(x, "stop;foo");
        due("fault() of a text that is not yet read", x::fault, NONE);
        argument("load()", x::load);
        due("fault()", x::fault, 5);
        due("fault() again", x::fault, 5);
        put(x, "foo");
        argument("load()", x::load);
        due("fault() of the latest", x::fault, 0);
        put(x, "stop");
        x.load();
        due("fault() of a right text", x::fault, NONE);
        put(x, "stop;");
        argument("load()", x::load);
        due("fault() of a text that ends too early", x::fault, 5);
        x.load();
        due("fault() of an empty text then", x::fault, NONE);
        wrongText("jump" + " ".repeat(396), 400);
    }

    private static void order() {
        sentence("Of an ORDER what 0 its word (0 set, 1 point, 2 jump, 3 if, 4 through, 5 call, 6 by, 7 back, 8 door, 9"
                + " stop), 1 its entry's KIND (NONE), 2 its GRADE (0 of others), 3 its KIND (through, by; 0 of others), 4"
                + " its PLACE (NONE). NoSuchElementException: another what.");
        JumpFence x = with("entry 0 set c1 = 1;entry 3 point c1 at 39;jump 0;if 1 < 2 jump 9;through c1 kind 3;entry 1 call"
                + " 6;by c3;back;door 4;entry 2 stop", "through c1;by c3 kind 1");
        graded(x, 3, 4);
        graded(x, 1, 7);
        int[][] dues = {
            {0, 0, 0, 0, NONE}, {1, 3, 0, 0, 39}, {2, NONE, 0, 0, 0}, {3, NONE, 0, 0, 9}, {4, NONE, 3, 3, NONE},
            {5, 1, 0, 0, 6}, {6, NONE, 0, 0, NONE}, {7, NONE, 1, 0, NONE}, {8, NONE, 0, 0, NONE}, {9, 2, 0, 0, NONE},
            {4, NONE, 0, 0, NONE}, {6, NONE, 0, 1, NONE}
        };
        for (int k = 0; k < dues.length; k++) {
            for (int w = 0; w < 5; w++) {
                int order = k;
                int what = w;
                due("order(" + k + ", " + w + ")", () -> x.order(order, what), dues[k][w]);
            }
        }
        for (int what : outside(0, 4)) {
            noSuch("order(0, " + what + ")", () -> x.order(0, what));
        }
    }

    private static void grade() {
        sentence("A JUMP has a GRADE: whether it was another one. IllegalArgumentException: it is not 0 to 3.");
        for (int jump : JUMPS) {
            JumpFence x = with(TEXT);
            int was = 0;
            for (int grade : new int[] {0, 3, 3, 1, 2, 2, 0, 0, 1, 1, 3}) {
                due("grade(" + jump + ", " + grade + ")", () -> x.grade(jump, grade), grade != was);
                due("order(" + jump + ", 2)", () -> x.order(jump, 2), grade);
                due("count(2)", () -> x.count(2), grade == 0 ? 0 : 1);
                was = grade;
            }
            for (int grade : outside(0, 3)) {
                argument("grade(" + jump + ", " + grade + ")", () -> x.grade(jump, grade));
            }
            due("order(" + jump + ", 2)", () -> x.order(jump, 2), 3);
        }
    }

    private static void ticks() {
        sentence("TICKS of a GRADE 1 to 3. IllegalArgumentException: a number is none.");
        JumpFence x = with("call 2;stop;back");
        for (int g = 1; g <= 3; g++) {
            int grade = g;
            x.grade(2, g);
            for (int n : new int[] {1, 99, 50}) {
                due("ticks(" + g + ", " + n + ")", () -> ticksOf(x, grade, n), 0);
                due("run(false, 2)", () -> x.run(false, 2), n);
            }
            for (int n : outside(1, 99)) {
                argument("ticks(" + g + ", " + n + ")", () -> ticksOf(x, grade, n));
            }
            due("run(false, 2)", () -> x.run(false, 2), 50);
        }
        for (int grade : outside(1, 3)) {
            argument("ticks(" + grade + ", 5)", () -> ticksOf(x, grade, 5));
        }
        for (int g = 1; g <= 3; g++) {
            x.grade(2, g);
            due("TICKS of GRADE " + g, () -> x.run(false, 2), 50);
        }
        x.grade(2, 0);
        due("TICKS of GRADE 0", () -> x.run(false, 2), 0);
    }

    private static void landingsAndLets() {
        sentence("LANDINGS of a JUMP by KIND (flow false) or FLOW.");
        JumpFence x = with("point c0 at 3;by c0 kind 1;entry 1 stop;back;call 39;stop");
        due("landings(1, false)", () -> x.landings(1, false), 4);
        due("landings(1, true)", () -> x.landings(1, true), 8);
        due("landings(3, false)", () -> x.landings(3, false), 4 + 32);
        due("landings(3, true)", () -> x.landings(3, true), 4);
        // the GRADE is no matter
        graded(x, 2, 1, 3);
        due("landings(1, false)", () -> x.landings(1, false), 4);
        due("landings(3, false)", () -> x.landings(3, false), 4 + 32);

        sentence("What a JUMP LETS.");
        due("lets(1)", () -> x.lets(1), 8);
        graded(x, 1, 1, 3);
        due("lets(1)", () -> x.lets(1), 4);
        due("lets(3)", () -> x.lets(3), 4 + 32);
        graded(x, 3, 1, 3);
        due("lets(1)", () -> x.lets(1), 8);
        due("lets(3)", () -> x.lets(3), 4);
        graded(x, 0, 1, 3);
        due("lets(1)", () -> x.lets(1), 63);
        due("lets(3)", () -> x.lets(3), 63);
    }

    private static void holdsAndOdd() {
        sentence("PLACES that a CELL may hold, as bits (also such as are no ORDERS).");
        JumpFence x = with("point c0 at 0;point c15 at 39;point c15 at 31;point c15 at 32");
        due("holds(0)", () -> x.holds(0), 1);
        due("holds(15)", () -> x.holds(15), (1L << 39) + (1L << 31) + (1L << 32));
        due("holds(7)", () -> x.holds(7), 0);
        due("holds(0) without ORDERS", () -> new JumpFence().holds(0), 0);

        sentence("Whether a CELL is ODD.");
        due("odd(0) without ORDERS", () -> new JumpFence().odd(0), false);
        due("odd(15)", () -> with("set c15 = 0").odd(15), true);
        due("odd(0)", () -> with("set c0 = 0").odd(0), true);
        due("odd(15)", () -> with("set c0 = 0").odd(15), false);
        due("odd(15)", () -> x.odd(15), false);
    }

    private static void bend() {
        sentence("A BEND: its number. IndexOutOfBoundsException: the CELL is not 0 to 16; IllegalArgumentException: STEPS"
                + " are none; UnsupportedOperationException: there are 8.");
        JumpFence x = with("door c0;stop");
        int[][] right = {{0, 0, 0}, {299, 16, 0}, {0, 16, LOWEST}, {299, 0, HIGHEST}, {1, 15, -1}, {150, 1, 1}, {0, 0, 3}};
        for (int k = 0; k < right.length; k++) {
            int[] n = right[k];
            due("bend(" + n[0] + ", " + n[1] + ", " + n[2] + ")", () -> x.bend(n[0], n[1], n[2]), k);
        }
        for (int cell : outside(0, 16)) {
            index("bend(0, " + cell + ", 0)", () -> x.bend(0, cell, 0));
        }
        for (int steps : outside(0, 299)) {
            argument("bend(" + steps + ", 0, 0)", () -> x.bend(steps, 0, 0));
            argument("bend(" + steps + ", 16, 0)", () -> x.bend(steps, 16, 0));
        }
        due("bend(0, 0, 5), an 8th", () -> x.bend(0, 0, 5), 7);
        full("bend(0, 0, 6), a 9th", () -> x.bend(0, 0, 6));
        due("said(true, 0)", () -> x.said(true, 0), 5);

        sentence("No BENDS from now on: how many there were.");
        due("straight()", x::straight, 8);
        due("count(3)", () -> x.count(3), 0);
        due("said(true, 0)", () -> x.said(true, 0), 0);
        due("straight() again", x::straight, 0);
        due("bend(0, 0, 9), the first one anew", () -> x.bend(0, 0, 9), 0);
        due("said(true, 0)", () -> x.said(true, 0), 9);
        due("straight()", x::straight, 1);
    }

    private static void run() {
        sentence("A RUN with BENDS (bent) or without them, what 0 how it ends, 1 STEPS, 2 TICKS, 3 the ORDER that would be"
                + " next (of stop: it; of GUARD: that JUMP), 4 how many numbers were said, 5 JUMPS done, 6 LEAD (NONE), 7"
                + " the landing that a GUARD stopped (NONE). NoSuchElementException: another what.");
        JumpFence x = graded(with(BASE), 3, 1);
        graded(x, 2, 6);
        runs(x, false, 0, 6, 6, 3, 1, 2, NONE, NONE);
        runs(x, true, 0, 6, 6, 3, 1, 2, NONE, NONE);
        x.bend(3, 16, 8);
        runs(x, true, 1, 3, 4, 6, 0, 1, 0, 8);
        runs(x, false, 0, 6, 6, 3, 1, 2, NONE, NONE);
        x.straight();
        x.bend(1, 1, 39);
        runs(x, true, 1, 1, 0, 1, 0, 0, 0, 39);
        graded(x, 0, 1);
        runs(x, true, 3, 2, 0, 39, 0, 1, NONE, NONE);
        runs(with("door 1;jump 0"), false, 2, 300, 0, 0, 150, 0, NONE, NONE);
        runs(with("jump 1;door 1;jump 1"), false, 2, 300, 0, 2, 150, 0, NONE, NONE);
        // a GUARD may stop a landing of -1, which is NONE's number
        JumpFence y = graded(with("through c0;stop"), 1, 0);
        y.bend(0, 0, -1);
        runs(y, true, 1, 0, 0, 0, 0, 0, 0, -1);
        for (int what : outside(0, 7)) {
            noSuch("run(false, " + what + ")", () -> x.run(false, what));
            noSuch("run(true, " + what + ")", () -> x.run(true, what));
            noSuch("run(true, " + what + ") without ORDERS", () -> new JumpFence().run(true, what));
        }
    }

    private static void stepSaidCell() {
        sentence("The ORDER of a STEP of a RUN (from 0 on); NONE if there is none such.");
        steps(graded(with("door 1;through c1"), 1, 1), false, 0);
        JumpFence x = with(BASE);
        steps(x, false, 0, 1, 5, 6, 2, 3);
        x.bend(1, 1, 7);
        steps(x, true, 0, 1, 7, 8, 2, 3);
        steps(x, false, 0, 1, 5, 6, 2, 3);
        for (int i : outside(0, 5)) {
            due("step(false, " + i + ")", () -> x.step(false, i), NONE);
            due("step(true, " + i + ")", () -> x.step(true, i), NONE);
        }
        due("step(false, 0) without ORDERS", () -> new JumpFence().step(false, 0), NONE);
        JumpFence spent = with("jump 1;jump 0");
        due("step(false, 299)", () -> spent.step(false, 299), 1);
        due("step(false, 300)", () -> spent.step(false, 300), NONE);

        sentence("Number i that a RUN says (from 0 on); 1000000 if there is none such.");
        due("said(false, 0)", () -> x.said(false, 0), 1);
        due("said(true, 0)", () -> x.said(true, 0), 66);
        due("said(true, 1)", () -> x.said(true, 1), 1);
        due("said(true, 2)", () -> x.said(true, 2), 1000000);
        for (int i : outside(0, 0)) {
            due("said(false, " + i + ")", () -> x.said(false, i), 1000000);
        }
        due("said(false, 0) without ORDERS", () -> new JumpFence().said(false, 0), 1000000);
        JumpFence all = with(many("door 1", 40));
        due("said(false, 39)", () -> all.said(false, 39), 1);
        due("said(false, 40)", () -> all.said(false, 40), 1000000);
        JumpFence most = with("door 1;door 2;door 3;door 4;door 5;door 6;door 7;door 8;door 9;jump 0");
        due("said(false, 269)", () -> most.said(false, 269), 9);
        due("said(false, 270)", () -> most.said(false, 270), 1000000);

        JumpFence stopped = graded(with("door 1;through c1"), 1, 1);
        due("said(false, 0), at a GUARD", () -> stopped.said(false, 0), 1);
        due("said(false, 1), at a GUARD", () -> stopped.said(false, 1), 1000000);

        sentence("What a CELL is at the end of a RUN.");
        JumpFence guard = graded(with("set c0 = c0 + 1;through c1"), 1, 1);
        due("cell(false, 0), at a GUARD", () -> guard.cell(false, 0), 1);
        guard.grade(1, 0);
        due("cell(false, 0), without one", () -> guard.cell(false, 0), 150);
        JumpFence y = graded(with("set c0 = 3;set c15 = 4;through c1;set c0 = 5;stop"), 1, 2);
        due("cell(false, 0), at a GUARD", () -> y.cell(false, 0), 3);
        due("cell(false, 15), at a GUARD", () -> y.cell(false, 15), 4);
        due("cell(false, 1)", () -> y.cell(false, 1), 0);
        y.grade(2, 0);
        y.bend(2, 1, 3);
        due("cell(true, 0), behind stop", () -> y.cell(true, 0), 5);
        due("cell(true, 1), behind stop", () -> y.cell(true, 1), 3);
        due("cell(false, 0), when 300 were done", () -> with("set c0 = c0 + 1;jump 0").cell(false, 0), 150);
        due("cell(false, 0), at a TRAP", () -> with("set c0 = 999;set c0 = c0 * c0").cell(false, 0), 999);
    }

    private static void powerAndHarm() {
        sentence("A POWER: its number. IllegalArgumentException: cells has bits of none; UnsupportedOperationException:"
                + " there are 6.");
        JumpFence x = new JumpFence();
        for (int cells : outside(0, ALL_CELLS)) {
            argument("power(" + cells + ", true)", () -> x.power(cells, true));
        }
        for (int bit = 16; bit < 32; bit++) {
            int cells = 1 << bit;
            argument("power(" + cells + ", false)", () -> x.power(cells, false));
            argument("power(" + (cells | 1) + ", false)", () -> x.power(cells | 1, false));
        }
        int[] right = {0, 1, 1 << 15, ALL_CELLS, 1, 0};
        for (int k = 0; k < right.length; k++) {
            int cells = right[k];
            due("power(" + cells + ", true)", () -> x.power(cells, true), k);
        }
        full("power(0, true), a 7th", () -> x.power(0, true));
        due("count(4)", () -> x.count(4), 6);

        sentence("A HARM: its number. IllegalArgumentException: it is not 0 to 999; UnsupportedOperationException: there"
                + " are 8.");
        for (int word : outside(0, 999)) {
            argument("harm(" + word + ")", () -> x.harm(word));
        }
        int[] words = {0, 999, 1, 998, 5, 5, 500, 0};
        for (int k = 0; k < words.length; k++) {
            int word = words[k];
            due("harm(" + word + ")", () -> x.harm(word), k);
        }
        full("harm(0), a 9th", () -> x.harm(0));
        due("count(5)", () -> x.count(5), 8);
    }

    private static void reachAndRow() {
        sentence("REACH. (Without ORDERS 0.)");
        JumpFence x = new JumpFence();
        fill(x);
        for (int k = 0; k < 8; k++) {
            int harm = k;
            due("reach(5, " + k + ") without ORDERS", () -> x.reach(5, harm), 0);
        }
        JumpFence y = with("if c0 = 1 jump 2;stop;door 3;door c1");
        fill(y);
        due("reach(0, 3)", () -> y.reach(0, 3), 1);
        due("reach(2, 3)", () -> y.reach(2, 3), 2);
        due("reach(0, 4)", () -> y.reach(0, 4), 2);
        due("reach(5, 0)", () -> y.reach(5, 0), 2);
        JumpFence z = with("stop");
        fill(z);
        due("reach(0, 0)", () -> z.reach(0, 0), 0);

        sentence("ORDER i of THE ROW OF ORDERS (from 0 on); NONE if there is none such.");
        row(x, 0, 0);
        row(y, 0, 3, 0, 2);
        row(y, 5, 7, 0, 2, 3);
        for (int i : outside(0, 1)) {
            due("row(0, 3, " + i + ")", () -> y.row(0, 3, i), NONE);
        }
        for (int i : outside(0, 39)) {
            due("row(0, 0, " + i + ") without ORDERS", () -> x.row(0, 0, i), NONE);
        }
        row(z, 0, 0);
    }

    private static void closedAndLeast() {
        sentence("CLOSED.");
        JumpFence none = new JumpFence();
        fill(none);
        due("closed(0) without ORDERS", () -> none.closed(0), 0);
        JumpFence x = with("through c0;stop;stop");
        fill(x);
        due("closed(0)", () -> x.closed(0), 7);
        due("closed(1)", () -> x.closed(1), 1);
        due("closed(5)", () -> x.closed(5), 1);
        JumpFence forty = broken(0, true, 1, many("entry 0 back", 30), many("entry 0 back", 10));
        due("closed(0) of 40", () -> forty.closed(0), (1L << 40) - 1);

        sentence("LEAST: TICKS together (order NONE), or the GRADE of an ORDER that is one of the 6 JUMPS (NONE of others);"
                + " NONE without.");
        due("least(0, 0, NONE) without ORDERS", () -> none.least(0, 0, NONE), 0);
        String text = "jump 1;through c0;through c1;through c1;through c1;through c1;through c1;through c1;door 5;stop";
        JumpFence y = broken(1, false, 5, text);
        due("least(0, 0, NONE)", () -> y.least(0, 0, NONE), 1);
        int[] dues = {NONE, 1, 0, 0, 0, 0, 0, NONE, NONE, NONE};
        for (int k = 0; k < dues.length; k++) {
            int order = k;
            due("least(0, 0, " + k + ")", () -> y.least(0, 0, order), dues[k]);
        }
        for (int order : outside(NONE, 9)) {
            index("least(0, 0, " + order + ")", () -> y.least(0, 0, order));
        }
        JumpFence without = broken(1, false, 5, "if c0 = 0 jump 2;through c0;door 5");
        due("least(0, 0, NONE) without", () -> without.least(0, 0, NONE), NONE);
        due("least(0, 0, 1) without", () -> without.least(0, 0, 1), NONE);
        due("least(0, 0, 0) without", () -> without.least(0, 0, 0), NONE);
        index("least(0, 0, 3) without", () -> without.least(0, 0, 3));
    }

    private static void marksAndJoined() {
        sentence("MARKS.");
        due("marks() without ORDERS", () -> new JumpFence().marks(), 0);
        JumpFence x = with(TEXT);
        due("marks() of GRADE 0", x::marks, 0);
        graded(x, 2, JUMPS);
        due("marks()", x::marks, 2);
        graded(x, 0, 5);
        due("marks()", x::marks, 1);

        sentence("JOINED. IllegalArgumentException: the number is none.");
        graded(x, 2, JUMPS);
        due("joined(1)", () -> x.joined(1), 3);
        due("joined(2)", () -> x.joined(2), 0);
        due("joined(16)", () -> x.joined(16), 0);
        for (int marks : outside(1, 16)) {
            argument("joined(" + marks + ")", () -> x.joined(marks));
            argument("joined(" + marks + ") without ORDERS", () -> new JumpFence().joined(marks));
        }
    }

    private static void fenceAndLate() {
        sentence("FENCE; NONE. IllegalArgumentException: from is above to.");
        JumpFence x = broken(0, false, 1, many("door 1", 40));
        for (int k = 1; k < 40; k++) {
            int order = k;
            due("fence(" + k + ", 39, 0, 0)", () -> x.fence(order, 39, 0L, 0), k - 1);
            due("fence(" + k + ", " + k + ", 0, 0)", () -> x.fence(order, order, 0L, 0), k - 1);
            due("fence(" + k + ", 39, its bit, 0)", () -> x.fence(order, 39, 1L << order, 0), NONE);
            argument("fence(" + k + ", " + (k - 1) + ", 0, 0)", () -> x.fence(order, order - 1, 0L, 0));
        }
        argument("fence(39, 0, 0, 0)", () -> x.fence(39, 0, 0L, 0));
        due("fence(0, 0, 0, 0)", () -> x.fence(0, 0, 0L, 0), NONE);
        due("fence(0, 39, 0, 0)", () -> x.fence(0, 39, 0L, 0), NONE);

        sentence("LATE; NONE. IllegalArgumentException: the number is none.");
        JumpFence y = graded(with("through c0"), 1, 0);
        for (int k = 1; k <= 20; k++) {
            int every = k;
            due("late(" + k + ")", () -> y.late(every), k - 1);
            due("late(" + k + ") without ORDERS", () -> new JumpFence().late(every), NONE);
        }
        for (int every : outside(1, 20)) {
            argument("late(" + every + ")", () -> y.late(every));
            argument("late(" + every + ") without ORDERS", () -> new JumpFence().late(every));
        }
    }

    private static void judge() {
        sentence("Uses the TAPE up: JUDGED; NONE.");
        JumpFence x = with("door 1;jump 0");
        due("judge() of an empty TAPE", x::judge, NONE);
        put(x, "\0\1\0");
        due("judge() of what is right", x::judge, NONE);
        due("end(1)", () -> x.end(1), false);
        put(x, "\0\1\1\0");
        due("judge() of what is wrong", x::judge, 2);
        due("end(1)", () -> x.end(1), false);
        due("judge() again", x::judge, NONE);
        put(x, "stop");
        due("judge() of a text", x::judge, 0);
        due("load() of what was used up", x::load, 2);
    }

    private static void imageAndBack() {
        sentence("THE IMAGE is kept.");
        JumpFence x = new JumpFence();
        x.image();
        put(x, "stop");
        x.load();
        due("back()", x::back, true);
        due("count(0)", () -> x.count(0), 0);
        put(x, "stop;stop");
        x.load();
        x.image();
        put(x, "stop");
        x.load();
        due("count(0)", () -> x.count(0), 3);
        due("back()", x::back, true);
        due("count(0)", () -> x.count(0), 2);

        sentence("One goes back to THE IMAGE: true; false, and nothing happens, if none was kept.");
        JumpFence y = graded(with(TEXT), 2, JUMPS);
        fill(y);
        String before = asks(y);
        due("back() without", y::back, false);
        due("what is asked then", () -> asks(y), before);
        y.image();
        due("back() at once", y::back, true);
        JumpFence z = graded(with(TEXT), 2, JUMPS);
        fill(z);
        z.image();
        z.straight();
        graded(z, 1, JUMPS);
        due("back()", z::back, true);
        due("what is asked then", () -> asks(z), before);
    }

    private static void count() {
        sentence("0 ORDERS, 1 JUMPS, 2 of GRADE above 0, 3 BENDS, 4 POWERS, 5 HARMS, 6 entries, 7 CELLS that are ODD, 8"
                + " pairs of POWERS and HARMS of REACH 0, 9 of REACH 1. NONE for another what.");
        JumpFence x = graded(with(TEXT, "entry 0 set c3 = c2;entry 3 stop"), 3, 1, 5);
        x.bend(0, 0, 0);
        x.bend(0, 0, 0);
        counts(x, 9, 3, 2, 2, 0, 0, 3, 2, 0, 0);
        x.power(0, false);
        counts(x, 9, 3, 2, 2, 1, 0, 3, 2, 0, 0);
        JumpFence y = with("if c0 = 1 jump 2;stop;door 3;stop");
        fill(y);
        // POWER 0 has c0, so HARM 3 is REACHED by it alone; for the others it is OPEN
        counts(y, 4, 0, 0, 8, 6, 8, 0, 0, 42, 1);
        JumpFence none = new JumpFence();
        fill(none);
        counts(none, 0, 0, 0, 8, 6, 8, 0, 0, 48, 0);
        JumpFence all = with("door c0");
        fill(all);
        counts(all, 1, 0, 0, 8, 6, 8, 0, 0, 0, 8 + 5);
        JumpFence odd = with("set c0=1;set c1=1;set c2=1;set c3=1;set c4=1;set c5=1;set c6=1;set c7=1",
                "set c8=1;set c9=1;set c10=1;set c11=1;set c12=1;set c13=1;set c14=1;set c15=1");
        counts(odd, 16, 0, 0, 0, 0, 0, 0, 16, 0, 0);
        JumpFence forty = with(many("entry 0 back", 30), many("entry 3 back", 10));
        for (int k = 0; k < 40; k++) {
            forty.grade(k, 1 + k % 3);
        }
        counts(forty, 40, 40, 40, 0, 0, 0, 40, 0, 0, 0);
        for (int what : outside(0, 9)) {
            due("count(" + what + ")", () -> x.count(what), NONE);
        }
    }
}
