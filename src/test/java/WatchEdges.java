/** MARKS, FENCES, JUMPS that are only watched, LEADS, RECORDS and THE IMAGE. */
final class WatchEdges extends Edges {
    /** Five STEPS and two JUMPS a round; JUMP 2i + 1 is done with 5i + 1 STEPS, JUMP 2i + 2 with 5i + 3. */
    private static final String ROUNDS = "call 3;call 3;jump 0;back";

    static void all() {
        marks();
        joined();
        fence();
        watched();
        leads();
        records();
        image();
    }

    /** A through for each text of digits: its CELL may hold the PLACES that the digits name; all have GRADE 2. */
    private static JumpFence throughs(String... places) {
        StringBuilder points = new StringBuilder();
        StringBuilder jumps = new StringBuilder();
        int first = 0;
        for (int k = 0; k < places.length; k++) {
            for (char place : places[k].toCharArray()) {
                points.append("point c" + k + " at " + place + ";");
                first++;
            }
            jumps.append(";through c" + k);
        }
        // ten ORDERS are there at least, so that each digit names one
        points.append("stop;stop;stop;stop;stop;stop;stop;stop;stop;stop");
        JumpFence x = with(points.toString(), jumps.substring(1));
        for (int k = 0; k < places.length; k++) {
            x.grade(first + 10 + k, 2);
        }
        return x;
    }

    private static void marksAre(int want, String... places) {
        JumpFence x = throughs(places);
        due("marks() of " + String.join(", ", places), x::marks, want);
    }

    private static void marks() {
        sentence("MARKS: of JUMPS with a GRADE above 0: two whose LETS meet share a MARK, and so on: how many there are.");
        due("marks() without ORDERS", () -> new JumpFence().marks(), 0);
        due("marks() without JUMPS", () -> with("stop").marks(), 0);
        due("marks() of GRADE 0", () -> with("back;back;through c0").marks(), 0);
        due("marks() of one", () -> graded(with("back;back;through c0"), 1, 0).marks(), 1);
        marksAre(1, "1");
        marksAre(2, "1", "2");
        marksAre(1, "1", "1");
        marksAre(1, "12", "23");
        marksAre(1, "12", "34", "23");
        marksAre(1, "12", "23", "34");
        marksAre(2, "12", "34", "56", "23");
        marksAre(2, "12", "34", "56", "23", "5");
        marksAre(1, "1", "2", "3", "4", "5", "12345");
        marksAre(1, "12345", "1", "2", "3", "4", "5");
        marksAre(3, "12", "34", "5", "1", "3", "2");
        // more than six count; a JUMP of GRADE 0 joins none, though it lets all
        marksAre(8, "1", "2", "3", "4", "5", "6", "7", "8");
        marksAre(1, "1", "2", "3", "4", "5", "6", "7", "1234567");
        JumpFence x = throughs("1", "2", "12");
        due("marks() of three", x::marks, 1);
        x.grade(16, 0);
        due("marks() of two, and one of GRADE 0", x::marks, 2);
        // one that lets nothing meets none
        marksAre(2, "1", "");
        marksAre(2, "", "");
        JumpFence y = with(many("back", 40));
        for (int k = 0; k < 40; k++) {
            y.grade(k, 1);
        }
        due("marks() of 40 that let nothing", y::marks, 40);
        // ORDER 39 and ORDER 0 are no neighbours
        JumpFence z = graded(with("point c0 at 0;point c1 at 39;through c0;through c1", many("stop", 36)), 2, 2, 3);
        due("marks() of the first and the last ORDER", z::marks, 2);
    }

    private static void joinedAre(JumpFence x, int... dues) {
        for (int k = 1; k <= 16; k++) {
            int marks = k;
            due("joined(" + k + ")", () -> x.joined(marks), k <= dues.length ? dues[k - 1] : 0);
        }
    }

    private static void joined() {
        sentence("JOINED to at most so many (1 to 16): of the first 6 of these JUMPS: parted into at most so many heaps"
                + " so that those whose LETS meet are together: the least of what, summed over JUMPS, all LETS of its"
                + " heap together have more than its own.");
        joinedAre(new JumpFence());
        joinedAre(with("back;through c0"));
        joinedAre(throughs("123"));
        joinedAre(throughs("1", "1"));
        joinedAre(throughs("1", "2"), 2);
        // six alone: pairs first, then threes, then all
        joinedAre(throughs("1", "2", "3", "4", "5", "6"), 30, 12, 6, 4, 2);
        // those that meet are together however many heaps there may be
        joinedAre(throughs("12", "23"), 2, 2, 2, 2, 2, 2, 2, 2, 2, 2, 2, 2, 2, 2, 2, 2);
        joinedAre(throughs("1", "2", "12"), 2, 2, 2, 2, 2, 2, 2, 2, 2, 2, 2, 2, 2, 2, 2, 2);
        joinedAre(throughs("1", "1", "3", "5", "13"), 9, 3, 3, 3, 3, 3, 3, 3, 3, 3, 3, 3, 3, 3, 3, 3);
        joinedAre(throughs("12", "34", "5", "6", "23"), 22, 8, 6, 6, 6, 6, 6, 6, 6, 6, 6, 6, 6, 6, 6, 6);
        // which ones are together hangs on how much they have
        joinedAre(throughs("1", "2", "345"), 4 + 4 + 2, 2);
        joinedAre(throughs("345", "1", "2"), 4 + 4 + 2, 2);
        joinedAre(throughs("1", "345", "2"), 4 + 4 + 2, 2);
        // what lets nothing has all of its heap more than its own
        joinedAre(throughs("1", ""), 1);
        joinedAre(throughs("", ""));
        // the first 6 alone: a 7th that meets all joins none of them, and has no heap
        int[] six = {30, 12, 6, 4, 2};
        joinedAre(throughs("1", "2", "3", "4", "5", "6", "123456"), six);
        joinedAre(throughs("1", "2", "3", "4", "5", "6", "7"), six);
        // the first 6 of those with a GRADE
        JumpFence x = throughs("9", "1", "2", "3", "4", "5", "6");
        x.grade(17, 0);
        joinedAre(x, six);
        for (int marks : outside(1, 16)) {
            argument("joined(" + marks + ")", () -> x.joined(marks));
        }
    }

    private static void fence() {
        sentence("FENCE: a part from an ORDER to another one, DOORS (as bits): by a POWER the first ORDER outside it,"
                + " CLOSED, from which one MAY come into it elsewhere than at a DOOR; none.");
        JumpFence x = broken(2, false, 5, BASE);
        due("fence(7, 8, 0, 0)", () -> x.fence(7, 8, 0L, 0), 1);
        due("fence(7, 8, 128, 0)", () -> x.fence(7, 8, 128L, 0), 1);
        due("fence(7, 8, 384, 0)", () -> x.fence(7, 8, 384L, 0), NONE);
        x.grade(1, 1);
        due("fence(7, 8, 128, 0) of GRADE 1", () -> x.fence(7, 8, 128L, 0), NONE);
        due("fence(7, 8, 256, 0) of GRADE 1", () -> x.fence(7, 8, 256L, 0), 1);
        due("fence(0, 8, 0, 0), nothing is outside", () -> x.fence(0, 8, 0L, 0), NONE);
        due("fence(0, 0, 0, 0), nothing leads there", () -> x.fence(0, 0, 0L, 0), NONE);
        due("fence(1, 1, 0, 0), one ORDER", () -> x.fence(1, 1, 0L, 0), 0);
        due("fence(8, 8, 0, 0), the last one", () -> x.fence(8, 8, 0L, 0), 7);
        due("fence(8, 8, -1, 0), all are DOORS", () -> x.fence(8, 8, -1L, 0), NONE);
        // an ORDER that is not CLOSED leads nowhere; the first one of several; one within does not count
        JumpFence y = broken(0, false, 5, "jump 3;jump 4;stop;if c0 = 0 jump 6;stop;jump 4;jump 4");
        due("fence(4, 4, 0, 0)", () -> y.fence(4, 4, 0L, 0), 3);
        due("fence(4, 6, 0, 0)", () -> y.fence(4, 6, 0L, 0), 3);
        due("fence(3, 4, 0, 0)", () -> y.fence(3, 4, 0L, 0), 0);
        due("fence(3, 4, 8, 0)", () -> y.fence(3, 4, 8L, 0), 6);
        due("fence(2, 2, 0, 0)", () -> y.fence(2, 2, 0L, 0), NONE);
        // in one step: what comes in by a DOOR may go on within
        JumpFence z = broken(0, false, 5, "jump 1;jump 2;stop");
        due("fence(1, 2, 2, 0)", () -> z.fence(1, 2, 2L, 0), NONE);
        due("fence(2, 2, 2, 0)", () -> z.fence(2, 2, 2L, 0), 1);
        // the POWER counts, and DOORS that are no ORDERS do not; bits 32 to 39, and those above
        JumpFence w = broken(1, false, 5, "through c0", many("stop", 39));
        w.power(0, true);
        due("fence(39, 39, 0, 0)", () -> w.fence(39, 39, 0L, 0), 0);
        due("fence(39, 39, 0, 1)", () -> w.fence(39, 39, 0L, 1), NONE);
        due("fence(39, 39, 1 << 39, 0)", () -> w.fence(39, 39, 1L << 39, 0), NONE);
        due("fence(39, 39, 1 << 7, 0)", () -> w.fence(39, 39, 1L << 7, 0), 0);
        due("fence(39, 39, all above, 0)", () -> w.fence(39, 39, -1L << 40, 0), 0);
        due("fence(1, 39, all but 32, 0)", () -> w.fence(1, 39, ~(1L << 32), 0), 0);
        due("fence(1, 39, all but 0, 0)", () -> w.fence(1, 39, ~1L, 0), NONE);
        due("fence(1, 39, the lowest, 0)", () -> w.fence(1, 39, Long.MIN_VALUE, 0), 0);
        // a part up to the last ORDER but one, and from the first one on
        due("fence(0, 38, 0, 0)", () -> w.fence(0, 38, 0L, 0), NONE);
        JumpFence back = broken(0, false, 5, "door 1;jump 0;stop");
        due("fence(0, 0, 0, 0)", () -> back.fence(0, 0, 0L, 0), 1);
    }

    private static JumpFence bentRounds(int steps, int place) {
        JumpFence x = graded(with(ROUNDS), 3, 3);
        x.bend(steps, 16, place);
        return x;
    }

    private static void watched() {
        sentence("WATCHED: in a RUN with BENDS in which no GUARD stops: each JUMP that is done and would have been stopped"
                + " by its GRADE is BAD; JUMPS are looked through after every so many (1 to 20) of them that were done,"
                + " and at the end: LATE: how many JUMPS had been done behind the first BAD one when it was found; none"
                + " without one.");
        // the first, the 19th, the 20th and the 21st JUMP is BAD
        int[] bad = {1, 19, 20, 21};
        int[] steps = {1, 46, 48, 51};
        int[] places = {2, 2, 1, 2};
        for (int k = 0; k < bad.length; k++) {
            JumpFence x = bentRounds(steps[k], places[k]);
            for (int e = 1; e <= 20; e++) {
                int every = e;
                int behind = 0;
                while ((bad[k] + behind) % every != 0) {
                    behind++;
                }
                due("late(" + e + ") with JUMP " + bad[k] + " BAD", () -> x.late(every), behind);
            }
        }
        JumpFence x = with(ROUNDS);
        for (int every : outside(1, 20)) {
            argument("late(" + every + ")", () -> x.late(every));
        }
        due("late(1) of GRADE 0", () -> bentOfGrade(0).late(1), NONE);
        due("late(1) of GRADE 1", () -> bentOfGrade(1).late(1), NONE);
        due("late(1) of GRADE 2", () -> bentOfGrade(2).late(1), NONE);
        due("late(1) of GRADE 3", () -> bentOfGrade(3).late(1), 0);
        due("late(1) without BENDS", () -> graded(with(ROUNDS), 3, 3).late(1), NONE);
        due("late(1) without ORDERS", () -> new JumpFence().late(1), NONE);
        // it is found at the end: behind stop, at a TRAP, when 300 were done
        JumpFence stop = graded(with("call 2;stop;back"), 1, 2);
        stop.bend(1, 16, 0);
        due("late(20), found behind stop", () -> stop.late(20), 1);
        due("late(2), found by looking through", () -> stop.late(2), 1);
        due("late(1)", () -> stop.late(1), 0);
        due("run(true, 5), a GUARD stops there", () -> stop.run(true, 5), 0);
        JumpFence trap = graded(with("call 2;stop;back"), 1, 2);
        trap.bend(1, 16, 39);
        due("late(20), found at a TRAP", () -> trap.late(20), 0);
        JumpFence spent = graded(with("jump 1;jump 2;through c0"), 1, 2);
        spent.bend(2, 0, 2);
        due("late(20) of 298 BAD ones", () -> spent.late(20), 19);
        JumpFence last = graded(with("jump 1;jump 2;if c0 = 1 jump 4;jump 2;through c1"), 1, 4);
        last.bend(298, 0, 1);
        due("late(20) of the 300th ORDER", () -> last.late(20), 0);
        due("late(1) of the 300th ORDER", () -> last.late(1), 0);
        last.straight();
        due("late(20) without it", () -> last.late(20), NONE);
        // a JUMP that a TRAP stops is not done, so it is not BAD
        JumpFence ninth = graded(with("entry 0 by c0"), 1, 0);
        ninth.bend(8, 0, 5);
        due("late(1) of a 9th PLACE", () -> ninth.late(1), NONE);
        // BAD ones without a BEND; the first one counts
        JumpFence without = graded(with("through c0;stop"), 2, 0);
        due("late(20) without a BEND", () -> without.late(20), 19);
        due("late(7) without a BEND", () -> without.late(7), 6);
    }

    private static JumpFence bentOfGrade(int grade) {
        JumpFence x = graded(with(ROUNDS), grade, 3);
        x.bend(1, 16, 2);
        return x;
    }

    private static void leadIs(JumpFence x, int lead) {
        due("run(true, 0)", () -> x.run(true, 0), 1);
        due("run(true, 6)", () -> x.run(true, 6), lead);
    }

    private static void leads() {
        sentence("LEAD of a RUN that ends at a GUARD: the latest BEND that wrote the CELL of that JUMP (of back the last"
                + " one of the ROW), if no ORDER wrote it since (set, point; a PLACE: put there); none.");
        // without a BEND; with one of another CELL, or behind the end
        JumpFence x = graded(with("door 1;through c1;stop"), 1, 1);
        leadIs(x, NONE);
        x.bend(0, 0, 5);
        x.bend(1, 2, 5);
        x.bend(2, 1, 5);
        leadIs(x, NONE);
        x.bend(0, 1, 0);
        leadIs(x, 3);
        due("run(false, 6)", () -> x.run(false, 6), NONE);
        // the latest one by STEPS, and of several at once by number, also if it wrote what was there
        x.bend(1, 1, 7);
        leadIs(x, 4);
        x.bend(0, 1, 9);
        leadIs(x, 4);
        x.bend(1, 1, 7);
        leadIs(x, 6);
        x.bend(1, 16, 7);
        leadIs(x, 6);
        // an ORDER that wrote the CELL since, even with the same number, or the number of a bent CELL
        for (String order : new String[] {"set c1 = c1", "set c1 = 9", "set c1 = c1 + 1", "point c1 at 9"}) {
            JumpFence y = graded(with(order + ";through c1;stop"), 1, 1);
            y.bend(0, 1, 9);
            leadIs(y, NONE);
            y.bend(1, 1, 8);
            leadIs(y, 1);
        }
        JumpFence moved = graded(with("set c1 = c0;set c0 = 3;through c1;stop"), 2, 2);
        moved.bend(0, 0, 9);
        leadIs(moved, NONE);
        // RUNS that do not end at a GUARD have none
        JumpFence let = with("through c1;stop");
        let.bend(0, 1, 1);
        runs(let, true, 0, 2, 0, 1, 0, 1, NONE, NONE);
        let.bend(0, 1, 9);
        runs(let, true, 3, 1, 0, 9, 0, 1, NONE, NONE);
        // the ROW: the slot that is the last one now
        JumpFence back = graded(with("call 3;stop;stop;call 5;back;back"), 1, 4);
        back.bend(1, 16, 2);
        leadIs(back, 0);
        back.bend(2, 16, 4);
        leadIs(back, 0);
        back.straight();
        back.bend(1, 16, 1);
        back.bend(3, 16, 1);
        due("run(true, 0), bent to what it was", () -> back.run(true, 0), 0);
        // a PLACE that is put there since
        JumpFence again = graded(with("call 4;call 5;stop;stop;back;back"), 3, 5);
        again.bend(1, 16, 1);
        due("run(true, 0), the bent one is gone", () -> again.run(true, 0), 0);
        again.bend(3, 16, 9);
        leadIs(again, 1);
        // stopped without a BEND of its slot, though the slot was bent when another PLACE stood there
        JumpFence other = graded(with("call 3;jump 4;back;back;call 2"), 1, 2);
        other.bend(1, 16, 1);
        runs(other, true, 1, 4, 0, 2, 0, 1, NONE, 5);
        other.bend(4, 16, 6);
        runs(other, true, 1, 4, 0, 2, 0, 1, 1, 6);
    }

    private static void records() {
        sentence("A RECORD: the TAPE: a byte an ORDER, as they are done: JUDGED by a RUN with BENDS and GUARDS: the first"
                + " byte (from 0 on) that is not the ORDER of that STEP, or is behind its end; NONE, if it is right as"
                + " far as it goes.");
        JumpFence x = with(BASE);
        record(x, NONE);
        record(x, NONE, 0);
        record(x, NONE, 0, 1, 5, 6, 2);
        record(x, NONE, 0, 1, 5, 6, 2, 3);
        record(x, 6, 0, 1, 5, 6, 2, 3, 3);
        record(x, 6, 0, 1, 5, 6, 2, 3, 0, 0);
        record(x, 0, 1);
        record(x, 0, 255);
        record(x, 0, 128);
        record(x, 1, 0, 2, 5);
        record(x, 1, 0, 129);
        record(x, 5, 0, 1, 5, 6, 2, 2);
        record(x, 1, 0, '1');
        x.bend(1, 1, 7);
        record(x, NONE, 0, 1, 7, 8, 2, 3);
        record(x, 2, 0, 1, 5);
        x.grade(1, 2);
        record(x, NONE, 0);
        record(x, 1, 0, 1);
        record(new JumpFence(), NONE);
        record(new JumpFence(), 0, 0);
        // 300 STEPS, and a TAPE that is longer
        int[] zeros = new int[300];
        JumpFence y = with("jump 0");
        record(y, NONE, zeros);
        record(y, 300, new int[301]);
        record(y, 300, new int[400]);
        zeros[299] = 1;
        record(y, 299, zeros);
    }

    private static void image() {
        sentence("THE IMAGE (one) of all may be kept, and gone back to (but for the TAPE, fault() and THE IMAGE itself).");
        JumpFence x = graded(broken(3, true, 5, "call 2;stop;back"), 1, 2);
        x.bend(1, 16, 0);
        x.ticks(1, 7);
        x.ticks(2, 8);
        x.ticks(3, 9);
        x.image();
        // all is changed
        graded(x, 3, 2);
        x.straight();
        x.bend(0, 3, 4);
        x.bend(0, 3, 4);
        x.power(0, false);
        x.harm(6);
        for (int grade = 1; grade <= 3; grade++) {
            x.ticks(grade, 50);
        }
        put(x, "entry 1 set c1 = 7;point c2 at 1;through c1;set c0 = 1;set c15 = 1;point c0 at 1;call 2;stop");
        x.load();
        put(x, "jump 40");
        argument("load()", x::load);
        put(x, "door 9");
        for (int k = 0; k < 2; k++) {
            due("back()", x::back, true);
            counts(x, 3, 1, 1, 1, 1, 1, 0, 0);
            due("order(2, 2)", () -> x.order(2, 2), 1);
            index("order(3, 0)", () -> x.order(3, 0));
            due("holds(2)", () -> x.holds(2), 0);
            due("holds(0)", () -> x.holds(0), 0);
            for (int c : new int[] {0, 1, 15}) {
                due("odd(" + c + ")", () -> x.odd(c), false);
            }
            due("landings(2, false)", () -> x.landings(2, false), 2);
            due("landings(2, true)", () -> x.landings(2, true), 2);
            due("lets(2)", () -> x.lets(2), 2);
            runs(x, true, 1, 1, 0, 2, 0, 0, 0, 0);
            due("closed(0)", () -> x.closed(0), 7);
            due("fault()", x::fault, 5);
            for (int g = 1; g <= 3; g++) {
                int grade = g;
                graded(x, g, 2);
                due("TICKS of GRADE " + g, () -> x.run(false, 2), 6 + grade);
            }
            x.straight();
        }
        // the TAPE stays, byte by byte
        due("end(7)", () -> x.end(7), false);
        due("end(6)", () -> x.end(6), true);
        due("load()", x::load, 4);
        due("order(3, 0)", () -> x.order(3, 0), 8);
        // one IMAGE alone: a later one takes its place, and outlives what is done behind it
        x.image();
        put(x, "stop;stop");
        x.load();
        due("back()", x::back, true);
        due("count(0)", () -> x.count(0), 4);
        due("back() again", x::back, true);
        due("count(0)", () -> x.count(0), 4);
        // THE IMAGE of an object without anything, and of one with all
        JumpFence none = new JumpFence();
        none.image();
        put(none, many("back", 40));
        none.load();
        for (int k = 0; k < 8; k++) {
            none.bend(k, k, k);
            none.harm(k);
        }
        for (int k = 0; k < 6; k++) {
            none.power(k, true);
        }
        due("back() to nothing", none::back, true);
        counts(none, 0, 0, 0, 0, 0, 0, 0, 0, 0, 0);
        JumpFence all = with(many("back", 40));
        for (int k = 0; k < 8; k++) {
            all.bend(0, k, k + 1);
            all.harm(k);
        }
        for (int k = 0; k < 6; k++) {
            all.power(k, true);
        }
        graded(all, 2, 39);
        all.image();
        all.straight();
        graded(all, 0, 39);
        due("back() to all", all::back, true);
        counts(all, 40, 40, 1, 8, 6, 8, 0, 0, 48, 0);
        due("cell(true, 7)", () -> all.cell(true, 7), 8);
        due("order(39, 2)", () -> all.order(39, 2), 2);
        imageOfAtoms();
    }

    /** Both ATOMS of an ORDER come back as they were, also where a text came behind THE IMAGE. */
    private static void imageOfAtoms() {
        JumpFence x = with("set c1 = 9 - 2;if c1 > 3 jump 3;stop;set c2 = c1 * 2;if 14 = c2 jump 6;stop;door c2");
        x.image();
        put(x, "set c5 = 1 + c9;if c7 < 999 jump 0;stop");
        x.load();
        due("back()", x::back, true);
        steps(x, false, 0, 1, 3, 4, 6);
        due("said(false, 0)", () -> x.said(false, 0), 14);
        due("cell(false, 1)", () -> x.cell(false, 1), 7);
        due("odd(5)", () -> x.odd(5), false);
    }
}
