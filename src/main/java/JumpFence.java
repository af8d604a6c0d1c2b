import java.util.Arrays;
import java.util.NoSuchElementException;

/** Programs of a small machine whose jumps go through cells, their guards, and one who bends cells. */
public final class JumpFence {
    public static final int NONE = -1;

    private static final int MAX_ORDERS = 40;
    private static final int MAX_STEPS = 300;
    private static final int MAX_KEPT = 8;
    private static final int MAX_BENDS = 8;
    private static final int MAX_POWERS = 6;
    private static final int MAX_HARMS = 8;
    private static final int MAX_TAPE = 400;
    private static final int MAX_NUMBER = 999;
    private static final int MAX_SUM = 99999;
    private static final int MAX_TICKS = 99;
    private static final int MAX_MARKS = 16;
    private static final int MAX_EVERY = 20;
    private static final int CELLS = 16;
    private static final int KINDS = 4;
    private static final int GRADES = 4;
    private static final int FIRST_JUMPS = 6;
    private static final int NOTHING_SAID = 1000000;

    private static final int SET = 0;
    private static final int POINT = 1;
    private static final int JUMP = 2;
    private static final int IF = 3;
    private static final int THROUGH = 4;
    private static final int CALL = 5;
    private static final int BY = 6;
    private static final int BACK = 7;
    private static final int DOOR = 8;
    private static final int STOP = 9;

    private static final int BY_KIND = 1;
    private static final int BY_WAY = 3;

    private static final int ENDS_BY_STOP = 0;
    private static final int ENDS_AT_GUARD = 1;
    private static final int ENDS_SPENT = 2;
    private static final int ENDS_BY_TRAP = 3;

    private static final int NOT_REACHED = 0;
    private static final int REACHED = 1;
    private static final int OPEN = 2;

    private final Tape tape = new Tape();
    private final Book book = new Book();
    private final Book kept = new Book();
    private final Orders orders;
    private final Reader reader;
    private final Flow flow;
    private final Machine machine;
    private final Runner runner;
    private final Paths paths;
    private final Trial trial;
    private final Least leastGrades;
    private final Heaps heaps;
    private boolean hasImage;

    public JumpFence() {
        orders = book.orders;
        reader = new Reader(tape, orders);
        flow = new Flow(orders);
        machine = new Machine(orders);
        runner = new Runner(book, flow, machine);
        paths = new Paths(book, flow);
        trial = new Trial(book, paths, machine);
        leastGrades = new Least(book, paths);
        heaps = new Heaps(orders, flow);
    }

    public int feed(int a, int b, int c, int d, int e) {
        if (!tape.hasRoomFor(20)) {
            return NONE;
        }
        tape.append(a);
        tape.append(b);
        tape.append(c);
        tape.append(d);
        tape.append(e);
        return tape.length;
    }

    public boolean end(int n) {
        if (n < 0 || n > tape.length) {
            return false;
        }
        tape.length = n;
        return true;
    }

    public int load() throws IllegalArgumentException {
        int size = reader.readText();
        tape.length = 0;
        if (size == NONE) {
            throw new IllegalArgumentException("the text is wrong");
        }
        orders.size = size;
        flow.workOut();
        return size;
    }

    public int fault() {
        return reader.wrong;
    }

    public int order(int order, int what) throws IndexOutOfBoundsException, NoSuchElementException {
        needOrder(order);
        switch (what) {
            case 0:
                return orders.word[order];
            case 1:
                return orders.entry[order];
            case 2:
                return orders.grade[order];
            case 3:
                return orders.kind[order];
            case 4:
                return orders.place[order];
            default:
                throw new NoSuchElementException("no such what");
        }
    }

    public boolean grade(int order, int grade)
            throws IndexOutOfBoundsException, ClassCastException, IllegalArgumentException {
        needJump(order);
        if (grade < 0 || grade >= GRADES) {
            throw new IllegalArgumentException("no such GRADE");
        }
        boolean another = orders.grade[order] != grade;
        orders.grade[order] = grade;
        return another;
    }

    public void ticks(int grade, int n) throws IllegalArgumentException {
        if (grade < 1 || grade >= GRADES || n < 1 || n > MAX_TICKS) {
            throw new IllegalArgumentException("no such GRADE, or no TICKS");
        }
        book.ticksOf[grade] = n;
    }

    public long landings(int order, boolean flow) throws IndexOutOfBoundsException, ClassCastException {
        needJump(order);
        return flow ? this.flow.byFlow[order] : this.flow.byKind[order];
    }

    public long lets(int order) throws IndexOutOfBoundsException, ClassCastException {
        needJump(order);
        return flow.allowedBy(order, orders.grade[order]);
    }

    public long holds(int cell) throws IndexOutOfBoundsException {
        needCell(cell);
        return flow.held[cell];
    }

    public boolean odd(int cell) throws IndexOutOfBoundsException {
        needCell(cell);
        return flow.isOdd[cell];
    }

    public int bend(int steps, int cell, int n)
            throws IndexOutOfBoundsException, IllegalArgumentException, UnsupportedOperationException {
        if (cell < 0 || cell > CELLS) {
            throw new IndexOutOfBoundsException("no such CELL");
        }
        if (steps < 0 || steps >= MAX_STEPS) {
            throw new IllegalArgumentException("no such STEPS");
        }
        if (book.bends >= MAX_BENDS) {
            throw new UnsupportedOperationException("there are 8 BENDS");
        }
        return book.addBend(steps, cell, n);
    }

    public int straight() {
        int were = book.bends;
        book.bends = 0;
        return were;
    }

    public int run(boolean bent, int what) throws NoSuchElementException {
        if (what < 0 || what > 7) {
            throw new NoSuchElementException("no such what");
        }
        runner.go(bent, true);
        return runner.tell(what);
    }

    public int step(boolean bent, int i) {
        runner.go(bent, true);
        return i >= 0 && i < machine.steps ? machine.done[i] : NONE;
    }

    public int said(boolean bent, int i) {
        runner.go(bent, true);
        return i >= 0 && i < machine.tellings ? machine.told[i] : NOTHING_SAID;
    }

    public int cell(boolean bent, int cell) throws IndexOutOfBoundsException {
        needCell(cell);
        runner.go(bent, true);
        return machine.cells[cell];
    }

    public int power(int cells, boolean row) throws IllegalArgumentException, UnsupportedOperationException {
        if (cells < 0 || cells >= 1 << CELLS) {
            throw new IllegalArgumentException("bits of no CELLS");
        }
        if (book.powers >= MAX_POWERS) {
            throw new UnsupportedOperationException("there are 6 POWERS");
        }
        return book.addPower(cells, row);
    }

    public int harm(int word) throws IllegalArgumentException, UnsupportedOperationException {
        if (word < 0 || word > MAX_NUMBER) {
            throw new IllegalArgumentException("no such number");
        }
        if (book.harms >= MAX_HARMS) {
            throw new UnsupportedOperationException("there are 8 HARMS");
        }
        return book.addHarm(word);
    }

    public int reach(int power, int harm) throws IndexOutOfBoundsException {
        needPower(power);
        needHarm(harm);
        return trial.reachOf(power, harm);
    }

    public int row(int power, int harm, int i) throws IndexOutOfBoundsException {
        needPower(power);
        needHarm(harm);
        paths.findPath(power, harm);
        return i >= 0 && i < paths.length ? paths.path[i] : NONE;
    }

    public long closed(int power) throws IndexOutOfBoundsException {
        needPower(power);
        paths.findNext(power);
        return paths.comeTo();
    }

    public int least(int power, int harm, int order) throws IndexOutOfBoundsException {
        needPower(power);
        needHarm(harm);
        if (order != NONE) {
            needOrder(order);
        }
        leastGrades.search(power, harm);
        return order == NONE ? leastGrades.best : leastGrades.bestGradeOf(order);
    }

    public int marks() {
        heaps.gather(MAX_ORDERS);
        return heaps.groups;
    }

    public int joined(int marks) throws IllegalArgumentException {
        if (marks < 1 || marks > MAX_MARKS) {
            throw new IllegalArgumentException("no such number of MARKS");
        }
        heaps.gather(FIRST_JUMPS);
        return heaps.leastExcess(marks);
    }

    public int fence(int from, int to, long doors, int power)
            throws IndexOutOfBoundsException, IllegalArgumentException {
        needOrder(from);
        needOrder(to);
        needPower(power);
        if (from > to) {
            throw new IllegalArgumentException("from is above to");
        }
        paths.findNext(power);
        return paths.firstBreach(from, to, doors);
    }

    public int late(int every) throws IllegalArgumentException {
        if (every < 1 || every > MAX_EVERY) {
            throw new IllegalArgumentException("no such number of JUMPS");
        }
        runner.go(true, false);
        return runner.lateness(every);
    }

    public int judge() {
        runner.go(true, true);
        int length = tape.length;
        tape.length = 0;
        for (int i = 0; i < length; i++) {
            if (i >= machine.steps || tape.at(i) != machine.done[i]) {
                return i;
            }
        }
        return NONE;
    }

    public void image() {
        kept.copyFrom(book);
        hasImage = true;
    }

    public boolean back() {
        if (!hasImage) {
            return false;
        }
        book.copyFrom(kept);
        flow.workOut();
        return true;
    }

    public int count(int what) {
        switch (what) {
            case 0:
                return orders.size;
            case 1:
                return orders.countJumps(0);
            case 2:
                return orders.countJumps(1);
            case 3:
                return book.bends;
            case 4:
                return book.powers;
            case 5:
                return book.harms;
            case 6:
                return orders.countEntries();
            case 7:
                return flow.countOdd();
            case 8:
                return trial.countPairs(NOT_REACHED);
            case 9:
                return trial.countPairs(REACHED);
            default:
                return NONE;
        }
    }

    private void needOrder(int order) {
        if (!orders.has(order)) {
            throw new IndexOutOfBoundsException("no such ORDER");
        }
    }

    private void needJump(int order) {
        needOrder(order);
        if (!orders.isJump(order)) {
            throw new ClassCastException("the ORDER is no JUMP");
        }
    }

    private void needCell(int cell) {
        if (cell < 0 || cell >= CELLS) {
            throw new IndexOutOfBoundsException("no such CELL");
        }
    }

    private void needPower(int power) {
        if (power < 0 || power >= book.powers) {
            throw new IndexOutOfBoundsException("no such POWER");
        }
    }

    private void needHarm(int harm) {
        if (harm < 0 || harm >= book.harms) {
            throw new IndexOutOfBoundsException("no such HARM");
        }
    }

    /** The bytes that were fed and not yet used up. */
    private static final class Tape {
        private final byte[] bytes = new byte[MAX_TAPE];
        int length;

        boolean hasRoomFor(int more) {
            return length + more <= MAX_TAPE;
        }

        void append(int number) {
            for (int shift = 24; shift >= 0 && length < MAX_TAPE; shift -= 8) {
                bytes[length] = (byte) (number >> shift);
                length++;
            }
        }

        /** The byte as 0 to 255; NONE where the room of the TAPE ends. */
        int at(int i) {
            return i >= 0 && i < MAX_TAPE ? bytes[i] & 255 : NONE;
        }

        boolean isText(String text, int begin, int behind) {
            if (behind - begin != text.length()) {
                return false;
            }
            for (int k = 0; k < text.length(); k++) {
                if (at(begin + k) != text.charAt(k)) {
                    return false;
                }
            }
            return true;
        }
    }

    /** The ORDERS with their GRADES; the slots from size on are the reader's, until a text is right. */
    private static final class Orders {
        /** An ATOM is one number: a NUMBER as itself, a CELL behind the greatest NUMBER. */
        static final int FIRST_CELL = MAX_NUMBER + 1;

        int size;
        final int[] word = new int[MAX_ORDERS];
        final int[] entry = new int[MAX_ORDERS];
        final int[] grade = new int[MAX_ORDERS];
        final int[] kind = new int[MAX_ORDERS];
        final int[] place = new int[MAX_ORDERS];
        final int[] cell = new int[MAX_ORDERS];
        final int[] first = new int[MAX_ORDERS];
        final int[] sign = new int[MAX_ORDERS];
        final int[] second = new int[MAX_ORDERS];

        static boolean isCell(int atom) {
            return atom >= FIRST_CELL && atom < FIRST_CELL + CELLS;
        }

        static int cellOf(int atom) {
            return atom - FIRST_CELL;
        }

        static boolean compare(int left, int sign, int right) {
            if (sign == '<') {
                return left < right;
            }
            return sign == '>' ? left > right : left == right;
        }

        boolean has(int order) {
            return order >= 0 && order < size;
        }

        boolean isJump(int order) {
            return has(order) && (usesCell(order) || word[order] == BACK);
        }

        /** Whether it is through or by. */
        boolean usesCell(int order) {
            return word[order] == THROUGH || word[order] == BY;
        }

        /** Whether it is call or by, behind which back may land. */
        boolean keepsPlace(int order) {
            return word[order] == CALL || word[order] == BY;
        }

        long all() {
            return (1L << size) - 1;
        }

        /** The bit of an ORDER, none of what is no ORDER. */
        long bit(int order) {
            return order >= 0 && order < size ? 1L << order : 0L;
        }

        boolean setsCellAlone(int order) {
            return word[order] == SET && sign[order] == 0 && isCell(first[order]);
        }

        boolean setsOtherwise(int order) {
            return word[order] == SET && !setsCellAlone(order);
        }

        void blank(int order) {
            entry[order] = NONE;
            grade[order] = 0;
            kind[order] = 0;
            place[order] = NONE;
            cell[order] = 0;
            first[order] = 0;
            sign[order] = 0;
            second[order] = 0;
        }

        int countJumps(int fromGrade) {
            int n = 0;
            for (int k = 0; k < size; k++) {
                if (isJump(k) && grade[k] >= fromGrade) {
                    n++;
                }
            }
            return n;
        }

        int countEntries() {
            int n = 0;
            for (int k = 0; k < size; k++) {
                if (entry[k] != NONE) {
                    n++;
                }
            }
            return n;
        }

        void copyFrom(Orders other) {
            size = other.size;
            System.arraycopy(other.word, 0, word, 0, MAX_ORDERS);
            System.arraycopy(other.entry, 0, entry, 0, MAX_ORDERS);
            System.arraycopy(other.grade, 0, grade, 0, MAX_ORDERS);
            System.arraycopy(other.kind, 0, kind, 0, MAX_ORDERS);
            System.arraycopy(other.place, 0, place, 0, MAX_ORDERS);
            System.arraycopy(other.cell, 0, cell, 0, MAX_ORDERS);
            System.arraycopy(other.first, 0, first, 0, MAX_ORDERS);
            System.arraycopy(other.sign, 0, sign, 0, MAX_ORDERS);
            System.arraycopy(other.second, 0, second, 0, MAX_ORDERS);
        }
    }

    /** All that THE IMAGE keeps. */
    private static final class Book {
        final Orders orders = new Orders();
        final int[] ticksOf = {0, 1, 2, 4};
        int bends;
        final int[] bendSteps = new int[MAX_BENDS];
        final int[] bendCell = new int[MAX_BENDS];
        final int[] bendNumber = new int[MAX_BENDS];
        int powers;
        final int[] powerCells = new int[MAX_POWERS];
        final boolean[] powerRow = new boolean[MAX_POWERS];
        int harms;
        final int[] harmWord = new int[MAX_HARMS];

        int addBend(int steps, int cell, int n) {
            if (bends >= MAX_BENDS) {
                return NONE;
            }
            bendSteps[bends] = steps;
            bendCell[bends] = cell;
            bendNumber[bends] = n;
            bends++;
            return bends - 1;
        }

        int addPower(int cells, boolean row) {
            if (powers >= MAX_POWERS) {
                return NONE;
            }
            powerCells[powers] = cells;
            powerRow[powers] = row;
            powers++;
            return powers - 1;
        }

        int addHarm(int word) {
            if (harms >= MAX_HARMS) {
                return NONE;
            }
            harmWord[harms] = word;
            harms++;
            return harms - 1;
        }

        void copyFrom(Book other) {
            orders.copyFrom(other.orders);
            System.arraycopy(other.ticksOf, 0, ticksOf, 0, GRADES);
            bends = other.bends;
            System.arraycopy(other.bendSteps, 0, bendSteps, 0, MAX_BENDS);
            System.arraycopy(other.bendCell, 0, bendCell, 0, MAX_BENDS);
            System.arraycopy(other.bendNumber, 0, bendNumber, 0, MAX_BENDS);
            powers = other.powers;
            System.arraycopy(other.powerCells, 0, powerCells, 0, MAX_POWERS);
            for (int k = 0; k < MAX_POWERS; k++) {
                powerRow[k] = other.powerRow[k];
            }
            harms = other.harms;
            System.arraycopy(other.harmWord, 0, harmWord, 0, MAX_HARMS);
        }
    }

    /** Reads the TAPE as a text into the slots behind the ORDERS that are there. */
    private static final class Reader {
        // things: a word of an ORDER is its own number, a sign is SIGN and its byte
        private static final int ENTRY = 10;
        private static final int AT = 11;
        private static final int KIND = 12;
        private static final int CELL = 13;
        private static final int NO_WORD = 14;
        private static final int NUMBER = 15;
        private static final int TEXT_END = 16;
        private static final int SIGN = 256;
        private static final int MAX_DIGITS = 3;
        private static final int TOO_GREAT = 1000000;

        private final Tape tape;
        private final Orders orders;
        private final int[] things = new int[MAX_TAPE + 1];
        private final int[] begins = new int[MAX_TAPE + 1];
        private final int[] values = new int[MAX_TAPE + 1];
        private int here;
        private int taken;
        int wrong = NONE;

        Reader(Tape tape, Orders orders) {
            this.tape = tape;
            this.orders = orders;
        }

        /** How many ORDERS there would be with this text; NONE if it is wrong. */
        int readText() {
            scan();
            wrong = NONE;
            here = 0;
            if (things[here] == TEXT_END) {
                return orders.size;
            }
            for (int slot = orders.size; slot <= MAX_ORDERS; slot++) {
                if (!readOrder(slot)) {
                    return refuse();
                }
                if (things[here] == TEXT_END) {
                    return slot + 1;
                }
                if (!take(SIGN + ';')) {
                    return refuse();
                }
            }
            return NONE;
        }

        /** Nothing is taken that cannot stand there, so the first wrong thing is the one not taken. */
        private int refuse() {
            wrong = begins[here];
            return NONE;
        }

        private boolean readOrder(int slot) {
            if (slot < 0 || slot >= MAX_ORDERS) {
                return false;
            }
            orders.blank(slot);
            if (take(ENTRY)) {
                if (!takeNumber(KINDS - 1)) {
                    return false;
                }
                orders.entry[slot] = taken;
            }
            int word = things[here];
            if (word < SET || word > STOP) {
                return false;
            }
            orders.word[slot] = word;
            return take(word) && readBehindWord(slot, word);
        }

        private boolean readBehindWord(int slot, int word) {
            switch (word) {
                case SET:
                    return readCell(slot) && take(SIGN + '=') && readFirst(slot) && (!isOp() || readSecond(slot));
                case POINT:
                    return readCell(slot) && take(AT) && readPlace(slot);
                case JUMP:
                case CALL:
                    return readPlace(slot);
                case IF:
                    return readFirst(slot) && isComparison() && readSecond(slot) && take(JUMP) && readPlace(slot);
                case THROUGH:
                case BY:
                    return readCell(slot) && readKind(slot);
                case DOOR:
                    return readFirst(slot);
                default:
                    return true;
            }
        }

        private boolean readCell(int slot) {
            boolean right = take(CELL) && takeNumber(CELLS - 1);
            orders.cell[slot] = right ? taken : 0;
            return right;
        }

        private boolean readPlace(int slot) {
            boolean right = takeNumber(MAX_ORDERS - 1);
            orders.place[slot] = right ? taken : NONE;
            return right;
        }

        private boolean readKind(int slot) {
            if (!take(KIND)) {
                return true;
            }
            boolean right = takeNumber(KINDS - 1);
            orders.kind[slot] = right ? taken : 0;
            return right;
        }

        private boolean readFirst(int slot) {
            boolean right = takeAtom();
            orders.first[slot] = right ? taken : 0;
            return right;
        }

        /** The sign, which is right, and the ATOM behind it. */
        private boolean readSecond(int slot) {
            int sign = things[here];
            orders.sign[slot] = sign - SIGN;
            boolean right = take(sign) && takeAtom();
            orders.second[slot] = right ? taken : 0;
            return right;
        }

        private boolean takeAtom() {
            if (!take(CELL)) {
                return takeNumber(MAX_NUMBER);
            }
            if (!takeNumber(CELLS - 1)) {
                return false;
            }
            taken += Orders.FIRST_CELL;
            return true;
        }

        private boolean takeNumber(int most) {
            if (things[here] != NUMBER || values[here] > most || here >= MAX_TAPE) {
                return false;
            }
            taken = values[here];
            here++;
            return true;
        }

        private boolean isOp() {
            int thing = things[here];
            return thing == SIGN + '+' || thing == SIGN + '-' || thing == SIGN + '*';
        }

        private boolean isComparison() {
            int thing = things[here];
            return thing == SIGN + '<' || thing == SIGN + '>' || thing == SIGN + '=';
        }

        private boolean take(int thing) {
            if (things[here] != thing || here >= MAX_TAPE) {
                return false;
            }
            here++;
            return true;
        }

        /** Parts the text into things: words, rows of digits, and other bytes one by one. */
        private void scan() {
            int count = 0;
            int at = 0;
            while (at < tape.length && count < MAX_TAPE) {
                int sort = sortOf(tape.at(at));
                int begin = at;
                at++;
                while (at < tape.length && sort != SIGN && sortOf(tape.at(at)) == sort) {
                    at++;
                }
                if (tape.at(begin) != ' ') {
                    begins[count] = begin;
                    keepThing(count, sort, at);
                    count++;
                }
            }
            things[count] = TEXT_END;
            begins[count] = tape.length;
        }

        private static int sortOf(int sign) {
            if (sign >= 'a' && sign <= 'z') {
                return NO_WORD;
            }
            return sign >= '0' && sign <= '9' ? NUMBER : SIGN;
        }

        private void keepThing(int count, int sort, int behind) {
            int begin = begins[count];
            if (sort == NUMBER) {
                things[count] = NUMBER;
                values[count] = valueOf(begin, behind);
            } else {
                things[count] = sort == SIGN ? SIGN + tape.at(begin) : wordOf(begin, behind);
            }
        }

        private int valueOf(int begin, int behind) {
            if (behind - begin > MAX_DIGITS) {
                return TOO_GREAT;
            }
            int value = 0;
            for (int k = begin; k < behind; k++) {
                value = value * 10 + (tape.at(k) - '0');
            }
            return value;
        }

        private int wordOf(int begin, int behind) {
            for (int word = SET; word < NO_WORD; word++) {
                if (tape.isText(spellingOf(word), begin, behind)) {
                    return word;
                }
            }
            return NO_WORD;
        }

        private static String spellingOf(int word) {
            switch (word) {
                case SET:
                    return "set";
                case POINT:
                    return "point";
                case JUMP:
                    return "jump";
                case IF:
                    return "if";
                case THROUGH:
                    return "through";
                case CALL:
                    return "call";
                case BY:
                    return "by";
                case BACK:
                    return "back";
                case DOOR:
                    return "door";
                case STOP:
                    return "stop";
                case ENTRY:
                    return "entry";
                case AT:
                    return "at";
                case KIND:
                    return "kind";
                default:
                    return "c";
            }
        }
    }

    /** What CELLS may hold, and the LANDINGS; worked out anew when the ORDERS are others. */
    private static final class Flow {
        private final Orders orders;
        final long[] held = new long[CELLS];
        final boolean[] isOdd = new boolean[CELLS];
        final long[] byKind = new long[MAX_ORDERS];
        final long[] byFlow = new long[MAX_ORDERS];
        private final long[] ways = new long[MAX_ORDERS];
        final long[] sureNext = new long[MAX_ORDERS];
        long behindCalls;
        long all;

        Flow(Orders orders) {
            this.orders = orders;
        }

        void workOut() {
            all = orders.all();
            findHeld();
            findBehindCalls();
            for (int k = 0; k < orders.size; k++) {
                byKind[k] = landingsByKind(k);
                byFlow[k] = orders.usesCell(k) ? landingsOfCell(k) : 0L;
            }
            for (int k = 0; k < orders.size; k++) {
                ways[k] = waysFrom(k);
                sureNext[k] = sureNextOf(k);
            }
            for (int k = 0; k < orders.size; k++) {
                if (orders.word[k] == BACK) {
                    byFlow[k] = landingsOfBack(k);
                }
            }
        }

        /** LETS of a JUMP, if it had that GRADE. */
        long allowedBy(int order, int grade) {
            if (grade == 0) {
                return all;
            }
            return grade == BY_KIND ? byKind[order] : byFlow[order];
        }

        int countOdd() {
            int n = 0;
            for (int k = 0; k < CELLS; k++) {
                if (isOdd[k]) {
                    n++;
                }
            }
            return n;
        }

        private void findHeld() {
            Arrays.fill(held, 0L);
            for (int k = 0; k < CELLS; k++) {
                isOdd[k] = false;
            }
            for (int k = 0; k < orders.size; k++) {
                if (orders.word[k] == POINT) {
                    held[orders.cell[k]] |= 1L << orders.place[k];
                }
                if (orders.setsOtherwise(k)) {
                    isOdd[orders.cell[k]] = true;
                }
            }
            boolean moved = true;
            // a PLACE goes through each CELL at most once, so CELLS rounds are enough
            for (int round = 0; round <= CELLS && moved; round++) {
                moved = moveHeld();
            }
        }

        private boolean moveHeld() {
            boolean moved = false;
            for (int k = 0; k < orders.size; k++) {
                if (orders.setsCellAlone(k)) {
                    int from = Orders.cellOf(orders.first[k]);
                    int to = orders.cell[k];
                    if ((held[from] & ~held[to]) != 0L || isOdd[from] && !isOdd[to]) {
                        held[to] |= held[from];
                        isOdd[to] = isOdd[to] || isOdd[from];
                        moved = true;
                    }
                }
            }
            return moved;
        }

        private void findBehindCalls() {
            behindCalls = 0L;
            for (int k = 0; k < orders.size; k++) {
                if (orders.keepsPlace(k)) {
                    behindCalls |= orders.bit(k + 1);
                }
            }
        }

        private long landingsByKind(int order) {
            if (orders.word[order] == BACK) {
                return behindCalls;
            }
            long landings = 0L;
            for (int k = 0; k < orders.size && orders.usesCell(order); k++) {
                if (orders.entry[k] == orders.kind[order]) {
                    landings |= orders.bit(k);
                }
            }
            return landings;
        }

        private long landingsOfCell(int order) {
            int cell = orders.cell[order];
            return isOdd[cell] ? byKind[order] : held[cell] & all;
        }

        /** Where one comes to from an ORDER without leaving what a call has begun. */
        private long waysFrom(int order) {
            switch (orders.word[order]) {
                case JUMP:
                    return orders.bit(orders.place[order]);
                case IF:
                    return orders.bit(order + 1) | orders.bit(orders.place[order]);
                case THROUGH:
                    return byFlow[order];
                case BACK:
                case STOP:
                    return 0L;
                default:
                    return orders.bit(order + 1);
            }
        }

        /** What MAY follow an ORDER that is no JUMP. */
        private long sureNextOf(int order) {
            int word = orders.word[order];
            if (word == CALL) {
                return orders.bit(orders.place[order]);
            }
            int first = orders.first[order];
            int second = orders.second[order];
            if (word != IF || Orders.isCell(first) || Orders.isCell(second)) {
                return ways[order];
            }
            boolean jumps = Orders.compare(first, orders.sign[order], second);
            return orders.bit(jumps ? orders.place[order] : order + 1);
        }

        private long landingsOfBack(int back) {
            long before = comingTo(back);
            long landings = 0L;
            for (int k = 0; k < orders.size; k++) {
                long called = orders.word[k] == BY ? byFlow[k] : 0L;
                if (orders.word[k] == CALL) {
                    called = orders.bit(orders.place[k]);
                }
                if ((called & before) != 0L) {
                    landings |= orders.bit(k + 1);
                }
            }
            return landings;
        }

        /** All ORDERS from which one comes to this one, and itself. */
        private long comingTo(int order) {
            long before = orders.bit(order);
            boolean moved = true;
            for (int round = 0; round <= MAX_ORDERS && moved; round++) {
                moved = false;
                for (int k = 0; k < orders.size; k++) {
                    long bit = orders.bit(k);
                    if ((before & bit) == 0L && (ways[k] & before) != 0L) {
                        before |= bit;
                        moved = true;
                    }
                }
            }
            return before;
        }
    }

    /** The CELLS, both ROWS, and ORDERS being done one by one; it knows nothing of GUARDS. */
    private static final class Machine {
        private final Orders orders;
        final int[] cells = new int[CELLS];
        final int[] cellBend = new int[CELLS];
        final int[] row = new int[MAX_KEPT];
        final int[] rowBend = new int[MAX_KEPT];
        final int[] secondRow = new int[MAX_KEPT];
        int depth;
        int at;
        final int[] done = new int[MAX_STEPS];
        int steps;
        final int[] told = new int[MAX_STEPS];
        int tellings;
        boolean stopped;

        Machine(Orders orders) {
            this.orders = orders;
        }

        void begin() {
            Arrays.fill(cells, 0);
            Arrays.fill(cellBend, NONE);
            depth = 0;
            at = 0;
            steps = 0;
            tellings = 0;
            stopped = false;
        }

        int valueOf(int atom) {
            int cell = atom - Orders.FIRST_CELL;
            return cell >= 0 && cell < CELLS ? cells[cell] : atom;
        }

        boolean isTrapped() {
            if (!orders.has(at)) {
                return true;
            }
            switch (orders.word[at]) {
                case SET:
                    long sum = sumOf(at);
                    return sum > MAX_SUM || sum < -MAX_SUM;
                case CALL:
                case BY:
                    return depth >= MAX_KEPT;
                case BACK:
                    return depth <= 0;
                default:
                    return false;
            }
        }

        /** Where the JUMP that is next lands. */
        int landing() {
            if (orders.word[at] == BACK) {
                return lastOf(row);
            }
            return cells[orders.cell[at]];
        }

        /** The last one of a ROW; NONE without one. */
        int lastOf(int[] places) {
            return depth > 0 && depth <= places.length ? places[depth - 1] : NONE;
        }

        /** The BEND by which the landing of the JUMP that is next was written; NONE. */
        int bendOfLanding() {
            if (orders.word[at] == BACK) {
                return lastOf(rowBend);
            }
            return cellBend[orders.cell[at]];
        }

        void write(int cell, int n, int bend) {
            if (cell >= 0 && cell < CELLS) {
                cells[cell] = n;
                cellBend[cell] = bend;
            }
        }

        void writeLast(int n, int bend) {
            if (depth > 0 && depth <= MAX_KEPT) {
                row[depth - 1] = n;
                rowBend[depth - 1] = bend;
            }
        }

        /** Does the ORDER that is next; the caller has asked for a TRAP. */
        void perform() {
            if (!orders.has(at) || steps >= MAX_STEPS) {
                return;
            }
            int order = at;
            done[steps] = order;
            steps++;
            at = order + 1;
            switch (orders.word[order]) {
                case SET:
                    write(orders.cell[order], (int) sumOf(order), NONE);
                    break;
                case POINT:
                    write(orders.cell[order], orders.place[order], NONE);
                    break;
                case DOOR:
                    say(valueOf(orders.first[order]));
                    break;
                case STOP:
                    at = order;
                    stopped = true;
                    break;
                default:
                    moveOn(order);
                    break;
            }
        }

        private void moveOn(int order) {
            switch (orders.word[order]) {
                case JUMP:
                    at = orders.place[order];
                    break;
                case IF:
                    int left = valueOf(orders.first[order]);
                    int right = valueOf(orders.second[order]);
                    boolean jumps = Orders.compare(left, orders.sign[order], right);
                    at = jumps ? orders.place[order] : order + 1;
                    break;
                case THROUGH:
                    at = cells[orders.cell[order]];
                    break;
                case CALL:
                    keep(order + 1);
                    at = orders.place[order];
                    break;
                case BY:
                    keep(order + 1);
                    at = cells[orders.cell[order]];
                    break;
                default:
                    at = lastOf(row);
                    depth = Math.max(0, depth - 1);
                    break;
            }
        }

        private void keep(int place) {
            if (depth >= 0 && depth < MAX_KEPT) {
                row[depth] = place;
                rowBend[depth] = NONE;
                secondRow[depth] = place;
                depth++;
            }
        }

        private void say(int n) {
            if (tellings < MAX_STEPS) {
                told[tellings] = n;
                tellings++;
            }
        }

        private long sumOf(int order) {
            long left = valueOf(orders.first[order]);
            long right = valueOf(orders.second[order]);
            switch (orders.sign[order]) {
                case '+':
                    return left + right;
                case '-':
                    return left - right;
                case '*':
                    return left * right;
                default:
                    return left;
            }
        }
    }

    /** A RUN with its BENDS, GUARDS and TICKS. */
    private static final class Runner {
        private final Book book;
        private final Orders orders;
        private final Flow flow;
        private final Machine machine;
        private int ending;
        private int ticks;
        private int jumps;
        private int lead;
        private int stoppedLanding;
        private int firstBad;

        Runner(Book book, Flow flow, Machine machine) {
            this.book = book;
            this.orders = book.orders;
            this.flow = flow;
            this.machine = machine;
        }

        /** With guarded false no GUARD stops: the JUMPS are only watched. */
        void go(boolean bent, boolean guarded) {
            machine.begin();
            ticks = 0;
            jumps = 0;
            lead = NONE;
            stoppedLanding = NONE;
            firstBad = NONE;
            ending = NONE;
            for (int k = 0; k <= MAX_STEPS && ending == NONE; k++) {
                if (bent) {
                    applyBends();
                }
                ending = endingAhead(guarded);
                if (ending == NONE) {
                    doOrder();
                    ending = machine.stopped ? ENDS_BY_STOP : NONE;
                }
            }
        }

        int tell(int what) {
            switch (what) {
                case 0:
                    return ending;
                case 1:
                    return machine.steps;
                case 2:
                    return ticks;
                case 3:
                    return machine.at;
                case 4:
                    return machine.tellings;
                case 5:
                    return jumps;
                case 6:
                    return lead;
                default:
                    return stoppedLanding;
            }
        }

        /** How many JUMPS were done behind the first BAD one when it was found; NONE without one. */
        int lateness(int every) {
            if (firstBad == NONE || every <= 0) {
                return NONE;
            }
            int looked = (firstBad + every - 1) / every * every;
            return Math.min(looked, jumps) - firstBad;
        }

        private void applyBends() {
            for (int k = 0; k < book.bends; k++) {
                if (book.bendSteps[k] == machine.steps) {
                    if (book.bendCell[k] == CELLS) {
                        machine.writeLast(book.bendNumber[k], k);
                    } else {
                        machine.write(book.bendCell[k], book.bendNumber[k], k);
                    }
                }
            }
        }

        private int endingAhead(boolean guarded) {
            if (machine.steps >= MAX_STEPS) {
                return ENDS_SPENT;
            }
            if (machine.isTrapped()) {
                return ENDS_BY_TRAP;
            }
            if (guarded && isForbidden()) {
                lead = machine.bendOfLanding();
                stoppedLanding = machine.landing();
                return ENDS_AT_GUARD;
            }
            return NONE;
        }

        private void doOrder() {
            int order = machine.at;
            if (orders.isJump(order)) {
                jumps++;
                int grade = orders.grade[order];
                ticks += book.ticksOf[grade];
                if (firstBad == NONE && isForbidden()) {
                    firstBad = jumps;
                }
            }
            machine.perform();
        }

        /** Whether the ORDER that is next is a JUMP whose GRADE does not let its landing. */
        private boolean isForbidden() {
            int order = machine.at;
            if (!orders.isJump(order) || orders.grade[order] == 0) {
                return false;
            }
            int landing = machine.landing();
            int grade = orders.grade[order];
            if (grade == BY_WAY && orders.word[order] == BACK) {
                return landing != machine.lastOf(machine.secondRow);
            }
            return (flow.allowedBy(order, grade) & orders.bit(landing)) == 0L;
        }
    }

    /** Where one MAY come to by a POWER, and THE ROW OF ORDERS. */
    private static final class Paths {
        private final Book book;
        private final Orders orders;
        private final Flow flow;
        final long[] next = new long[MAX_ORDERS];
        private final int[] away = new int[MAX_ORDERS];
        final int[] path = new int[MAX_ORDERS];
        int length;

        Paths(Book book, Flow flow) {
            this.book = book;
            this.orders = book.orders;
            this.flow = flow;
        }

        void findNext(int power) {
            for (int k = 0; k < orders.size; k++) {
                next[k] = nextOf(k, orders.grade[k], power);
            }
        }

        /** The ORDERS that MAY follow an ORDER, if it had that GRADE. */
        long nextOf(int order, int grade, int power) {
            switch (orders.word[order]) {
                case THROUGH:
                case BY:
                    return nextOfCell(order, power) & flow.allowedBy(order, grade);
                case BACK:
                    boolean bent = book.powerRow[power] && grade < BY_WAY;
                    return (bent ? flow.all : flow.behindCalls) & flow.allowedBy(order, grade);
                default:
                    return flow.sureNext[order];
            }
        }

        private long nextOfCell(int order, int power) {
            int cell = orders.cell[order];
            boolean bent = (book.powerCells[power] >> cell & 1) != 0;
            return bent || flow.isOdd[cell] ? flow.all : flow.held[cell];
        }

        /** All ORDERS that are come to from ORDER 0 by what next has. */
        long comeTo() {
            long seen = orders.bit(0);
            long fresh = seen;
            for (int k = 0; k < MAX_ORDERS && fresh != 0L; k++) {
                // as many bits stand below the lowest one as its number says
                int order = Long.bitCount((fresh & -fresh) - 1);
                fresh &= fresh - 1;
                long more = order < MAX_ORDERS ? next[order] & ~seen : 0L;
                seen |= more;
                fresh |= more;
            }
            return seen;
        }

        /** The doors that MAY do a HARM. */
        long doorsFor(int harm) {
            long doors = 0L;
            for (int k = 0; k < orders.size; k++) {
                int atom = orders.first[k];
                if (orders.word[k] == DOOR && (Orders.isCell(atom) || atom == book.harmWord[harm])) {
                    doors |= orders.bit(k);
                }
            }
            return doors;
        }

        /** Finds THE ROW OF ORDERS; it has no ORDER, if no door is come to. */
        void findPath(int power, int harm) {
            findNext(power);
            length = 0;
            if (!measure(doorsFor(harm))) {
                return;
            }
            int order = 0;
            path[0] = 0;
            length = 1;
            // the least next ORDER that is one nearer to a door keeps the row the least one
            for (int k = 1; k < MAX_ORDERS && away[order] > 0; k++) {
                order = leastNearer(order);
                path[k] = order;
                length = k + 1;
            }
        }

        /** How far each ORDER is away from the nearest door: whether ORDER 0 comes to one. */
        private boolean measure(long doors) {
            Arrays.fill(away, NONE);
            long near = doors;
            long all = 0L;
            for (int far = 0; far < MAX_ORDERS && near != 0L; far++) {
                all |= near;
                long further = 0L;
                for (int k = 0; k < orders.size; k++) {
                    if ((near & orders.bit(k)) != 0L) {
                        away[k] = far;
                    }
                    if ((all & orders.bit(k)) == 0L && (next[k] & near) != 0L) {
                        further |= orders.bit(k);
                    }
                }
                near = further;
            }
            return orders.has(0) && away[0] != NONE;
        }

        private int leastNearer(int order) {
            for (int k = 0; k < orders.size; k++) {
                if ((next[order] & orders.bit(k)) != 0L && away[k] == away[order] - 1) {
                    return k;
                }
            }
            return order;
        }

        /** The first ORDER outside a part that leads into it elsewhere than at a DOOR; NONE. */
        int firstBreach(int from, int to, long doors) {
            long closed = comeTo();
            long part = 0L;
            for (int k = from; k <= to; k++) {
                part |= orders.bit(k);
            }
            for (int k = 0; k < orders.size; k++) {
                boolean outside = (closed & ~part & orders.bit(k)) != 0L;
                if (outside && (next[k] & part & ~doors) != 0L) {
                    return k;
                }
            }
            return NONE;
        }
    }

    /** THE ROW OF ORDERS, tried by the breaker. */
    private static final class Trial {
        private final Book book;
        private final Orders orders;
        private final Paths paths;
        private final Machine machine;

        Trial(Book book, Paths paths, Machine machine) {
            this.book = book;
            this.orders = book.orders;
            this.paths = paths;
            this.machine = machine;
        }

        int reachOf(int power, int harm) {
            paths.findPath(power, harm);
            if (paths.length == 0) {
                return NOT_REACHED;
            }
            machine.begin();
            for (int k = 1; k < paths.length; k++) {
                if (!goesOnTo(paths.path[k], power)) {
                    return OPEN;
                }
            }
            return says(book.harmWord[harm], power) ? REACHED : OPEN;
        }

        int countPairs(int wanted) {
            int n = 0;
            for (int power = 0; power < book.powers; power++) {
                for (int harm = 0; harm < book.harms; harm++) {
                    if (reachOf(power, harm) == wanted) {
                        n++;
                    }
                }
            }
            return n;
        }

        /** Does the ORDER that is next, which is one of THE ROW OF ORDERS: whether it goes on as that does. */
        private boolean goesOnTo(int goal, int power) {
            if (orders.word[machine.at] == IF) {
                bendIf(goal, power);
            } else {
                bendLanding(goal, power);
            }
            if (machine.isTrapped() || !isOnWay(goal)) {
                return false;
            }
            machine.perform();
            return machine.at == goal;
        }

        /** The one GUARD that stands here: back of GRADE 3 asks the SECOND ROW. */
        private boolean isOnWay(int goal) {
            int order = machine.at;
            boolean asked = orders.word[order] == BACK && orders.grade[order] == BY_WAY;
            return !asked || machine.lastOf(machine.secondRow) == goal;
        }

        private void bendLanding(int goal, int power) {
            int order = machine.at;
            if (orders.word[order] == BACK && book.powerRow[power]) {
                machine.writeLast(goal, NONE);
            } else if (orders.usesCell(order) && inPower(orders.cell[order], power)) {
                machine.write(orders.cell[order], goal, NONE);
            }
        }

        private void bendIf(int goal, int power) {
            int order = machine.at;
            int place = orders.place[order];
            int first = orders.first[order];
            int second = orders.second[order];
            int sign = orders.sign[order];
            int left = machine.valueOf(first);
            int right = machine.valueOf(second);
            boolean wanted = goal == place;
            if (place == order + 1 || Orders.compare(left, sign, right) == wanted) {
                return;
            }
            if (isBendable(first, power)) {
                machine.write(Orders.cellOf(first), nearest(sign, wanted, right), NONE);
            } else if (isBendable(second, power)) {
                machine.write(Orders.cellOf(second), nearest(mirrored(sign), wanted, left), NONE);
            }
        }

        private boolean inPower(int cell, int power) {
            return (book.powerCells[power] >> cell & 1) != 0;
        }

        private boolean isBendable(int atom, int power) {
            return Orders.isCell(atom) && inPower(Orders.cellOf(atom), power);
        }

        private static int mirrored(int sign) {
            if (sign == '<') {
                return '>';
            }
            return sign == '>' ? '<' : sign;
        }

        /** The number nearest to the other one for which the comparison comes out as wanted. */
        private static int nearest(int sign, boolean wanted, int other) {
            if (Orders.compare(other, sign, other) == wanted) {
                return other;
            }
            return sign == '<' ? other - 1 : other + 1;
        }

        /** Whether the door that is next says the HARM, with its CELL bent to it if that can be. */
        private boolean says(int word, int power) {
            int atom = orders.first[machine.at];
            if (isBendable(atom, power)) {
                machine.write(Orders.cellOf(atom), word, NONE);
            }
            return machine.valueOf(atom) == word;
        }
    }

    /** The cheapest GRADES of the first JUMPS that hold a HARM. */
    private static final class Least {
        private final Book book;
        private final Orders orders;
        private final Paths paths;
        private final int[] jumps = new int[FIRST_JUMPS];
        private final int[] grades = new int[FIRST_JUMPS];
        private final int[] bestGrades = new int[FIRST_JUMPS];
        private final long[] nextByGrade = new long[FIRST_JUMPS * GRADES];
        private final boolean[] isUseful = new boolean[FIRST_JUMPS * GRADES];
        private final long[] narrowest = new long[FIRST_JUMPS];
        private int size;
        private long doors;
        int best;

        Least(Book book, Paths paths) {
            this.book = book;
            this.orders = book.orders;
            this.paths = paths;
        }

        void search(int power, int harm) {
            best = NONE;
            doors = paths.doorsFor(harm);
            paths.findNext(power);
            findJumps(power);
            for (int k = 0; k < size; k++) {
                paths.next[jumps[k]] = narrowest[k];
            }
            choose(0, 0);
        }

        int bestGradeOf(int order) {
            for (int k = 0; k < size && best != NONE; k++) {
                if (jumps[k] == order) {
                    return bestGrades[k];
                }
            }
            return NONE;
        }

        private void findJumps(int power) {
            size = 0;
            for (int k = 0; k < orders.size && size < FIRST_JUMPS; k++) {
                if (orders.isJump(k)) {
                    jumps[size] = k;
                    findChoices(size, power);
                    size++;
                }
            }
        }

        private void findChoices(int k, int power) {
            int order = jumps[k];
            narrowest[k] = orders.all();
            for (int grade = 0; grade < GRADES; grade++) {
                int at = k * GRADES + grade;
                nextByGrade[at] = paths.nextOf(order, grade, power);
                isUseful[at] = (grade < BY_WAY || orders.word[order] == BACK) && !isBeaten(k, grade);
                if (isUseful[at]) {
                    narrowest[k] &= nextByGrade[at];
                }
            }
        }

        /** Whether a lesser GRADE costs no more and leads nowhere else: then the least has not this one. */
        private boolean isBeaten(int k, int grade) {
            long next = nextByGrade[k * GRADES + grade];
            for (int lesser = 0; lesser < grade; lesser++) {
                boolean within = (nextByGrade[k * GRADES + lesser] & ~next) == 0L;
                if (within && book.ticksOf[lesser] <= book.ticksOf[grade]) {
                    return true;
                }
            }
            return false;
        }

        /**
         * Tries the GRADES of JUMP k and of those behind it, which stand at their narrowest meanwhile: what does
         * not hold then never will. The least GRADES come first, so of equal ones they stay.
         */
        private void choose(int k, int cost) {
            if (best != NONE && cost >= best || (paths.comeTo() & doors) != 0L) {
                return;
            }
            if (k >= size || k >= FIRST_JUMPS) {
                best = cost;
                System.arraycopy(grades, 0, bestGrades, 0, FIRST_JUMPS);
                return;
            }
            for (int grade = 0; grade < GRADES; grade++) {
                if (isUseful[k * GRADES + grade]) {
                    grades[k] = grade;
                    paths.next[jumps[k]] = nextByGrade[k * GRADES + grade];
                    choose(k + 1, cost + book.ticksOf[grade]);
                }
            }
            paths.next[jumps[k]] = narrowest[k];
        }
    }

    /** JUMPS with a GRADE, grouped by LETS that meet. */
    private static final class Heaps {
        private final Orders orders;
        private final Flow flow;
        private final long[] together = new long[MAX_ORDERS];
        private final int[] members = new int[MAX_ORDERS];
        private final long[] heapLets = new long[FIRST_JUMPS];
        private final int[] heapMembers = new int[FIRST_JUMPS];
        private int ownBits;
        int groups;

        Heaps(Orders orders, Flow flow) {
            this.orders = orders;
            this.flow = flow;
        }

        /** Groups the first so many JUMPS that have a GRADE. */
        void gather(int most) {
            groups = 0;
            ownBits = 0;
            int taken = 0;
            for (int k = 0; k < orders.size && taken < most; k++) {
                if (orders.isJump(k) && orders.grade[k] > 0) {
                    addJump(flow.allowedBy(k, orders.grade[k]));
                    taken++;
                }
            }
        }

        private void addJump(long own) {
            long joinedLets = own;
            int joinedMembers = 1;
            int left = 0;
            for (int k = 0; k < groups; k++) {
                if ((together[k] & own) != 0L) {
                    joinedLets |= together[k];
                    joinedMembers += members[k];
                } else {
                    together[left] = together[k];
                    members[left] = members[k];
                    left++;
                }
            }
            if (left < MAX_ORDERS) {
                together[left] = joinedLets;
                members[left] = joinedMembers;
                groups = left + 1;
            }
            ownBits += Long.bitCount(own);
        }

        /** Tries each way to put group k into one of the heaps 0 to k: what the cheapest one has too much. */
        int leastExcess(int marks) {
            int ways = 1;
            for (int k = 0; k < groups; k++) {
                ways *= choicesOf(k, marks);
            }
            int least = NONE;
            for (int way = 0; way < ways; way++) {
                int excess = bitsOf(way, marks) - ownBits;
                if (least == NONE || excess < least) {
                    least = excess;
                }
            }
            return least;
        }

        private static int choicesOf(int group, int marks) {
            return Math.max(1, Math.min(group + 1, marks));
        }

        private int bitsOf(int way, int marks) {
            Arrays.fill(heapLets, 0L);
            Arrays.fill(heapMembers, 0);
            int rest = way;
            for (int k = 0; k < groups && k < FIRST_JUMPS; k++) {
                int choices = choicesOf(k, marks);
                int heap = rest % choices;
                rest /= choices;
                heapLets[heap] |= together[k];
                heapMembers[heap] += members[k];
            }
            int bits = 0;
            for (int k = 0; k < FIRST_JUMPS; k++) {
                bits += heapMembers[k] * Long.bitCount(heapLets[k]);
            }
            return bits;
        }
    }
}
