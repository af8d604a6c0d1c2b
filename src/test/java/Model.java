import java.util.ArrayDeque;
import java.util.ArrayList;
import java.util.Arrays;
import java.util.Deque;
import java.util.List;
import java.util.NoSuchElementException;
import java.util.Set;
import java.util.TreeSet;

/** A second, slow writing of the document, with sets and searches, to hold the class against. */
final class Model {
    static final class Wrong extends RuntimeException {
        final int at;

        Wrong(int at) {
            this.at = at;
        }
    }

    static final class Order implements Cloneable {
        String word;
        int entry = -1;
        int grade;
        int kind;
        int place = -1;
        int cell = -1;
        String a;
        String sign;
        String b;

        boolean jump() {
            return word.equals("through") || word.equals("by") || word.equals("back");
        }

        Order copy() {
            try {
                return (Order) clone();
            } catch (CloneNotSupportedException e) {
                throw new IllegalStateException(e);
            }
        }
    }

    static final List<String> WORDS =
            List.of("set", "point", "jump", "if", "through", "call", "by", "back", "door", "stop");

    final List<Integer> tape = new ArrayList<>();
    int faultAt = -1;
    List<Order> orders = new ArrayList<>();
    int[] ticks = {0, 1, 2, 4};
    List<int[]> bends = new ArrayList<>();
    List<int[]> powers = new ArrayList<>();
    List<Integer> harms = new ArrayList<>();
    Model kept;

    // ---- the TAPE and texts

    int feed(int... numbers) {
        if (tape.size() + 20 > 400) {
            return -1;
        }
        for (int n : numbers) {
            tape.add(n >>> 24);
            tape.add(n >>> 16 & 255);
            tape.add(n >>> 8 & 255);
            tape.add(n & 255);
        }
        return tape.size();
    }

    boolean end(int n) {
        if (n < 0 || n > tape.size()) {
            return false;
        }
        while (tape.size() > n) {
            tape.remove(tape.size() - 1);
        }
        return true;
    }

    private final class Parser {
        final String text;
        int pos;
        final List<Order> read = new ArrayList<>();

        Parser(String text) {
            this.text = text;
        }

        String peek() {
            while (pos < text.length() && text.charAt(pos) == ' ') {
                pos++;
            }
            if (pos == text.length()) {
                return "";
            }
            int e = pos;
            while (e < text.length() && text.substring(pos, e + 1).matches("[a-z]+|[0-9]+")) {
                e++;
            }
            return text.substring(pos, Math.max(e, pos + 1));
        }

        String next() {
            String t = peek();
            pos += t.length();
            return t;
        }

        void want(String... any) {
            String t = peek();
            if (!Arrays.asList(any).contains(t)) {
                throw new Wrong(pos);
            }
        }

        int number(int most) {
            String t = peek();
            if (!t.matches("[0-9]{1,3}") || Integer.parseInt(t) > most) {
                throw new Wrong(pos);
            }
            next();
            return Integer.parseInt(t);
        }

        int cell() {
            want("c");
            next();
            return number(15);
        }

        String atom() {
            if (peek().equals("c")) {
                return "c" + cell();
            }
            return "" + number(999);
        }

        List<Order> all() {
            if (peek().isEmpty()) {
                return read;
            }
            while (true) {
                peek();
                if (orders.size() + read.size() == 40) {
                    throw new Wrong(pos);
                }
                read.add(one());
                if (peek().isEmpty()) {
                    return read;
                }
                want(";");
                next();
            }
        }

        Order one() {
            Order o = new Order();
            if (peek().equals("entry")) {
                next();
                o.entry = number(3);
            }
            want(WORDS.toArray(new String[0]));
            o.word = next();
            if (List.of("set", "point", "through", "by").contains(o.word)) {
                o.cell = cell();
            }
            if (o.word.equals("set")) {
                want("=");
                next();
            }
            if (List.of("set", "if", "door").contains(o.word)) {
                o.a = atom();
            }
            if (o.word.equals("if")) {
                want("<", ">", "=");
            }
            if (o.word.equals("if") || o.word.equals("set") && peek().matches("[-+*]")) {
                o.sign = next();
                o.b = atom();
            }
            if (o.word.equals("point")) {
                want("at");
                next();
            }
            if (o.word.equals("if")) {
                want("jump");
                next();
            }
            if (List.of("point", "jump", "if", "call").contains(o.word)) {
                o.place = number(39);
            }
            if ((o.word.equals("through") || o.word.equals("by")) && peek().equals("kind")) {
                next();
                o.kind = number(3);
            }
            return o;
        }
    }

    int load() {
        StringBuilder text = new StringBuilder();
        for (int b : tape) {
            text.append((char) b);
        }
        tape.clear();
        try {
            orders.addAll(new Parser(text.toString()).all());
            faultAt = -1;
        } catch (Wrong w) {
            faultAt = w.at;
            throw new IllegalArgumentException();
        }
        return orders.size();
    }

    int fault() {
        return faultAt;
    }

    // ---- what is asked for

    void needOrder(int k) {
        if (k < 0 || k >= orders.size()) {
            throw new IndexOutOfBoundsException();
        }
    }

    void needJump(int k) {
        needOrder(k);
        if (!orders.get(k).jump()) {
            throw new ClassCastException();
        }
    }

    void need(int k, int size) {
        if (k < 0 || k >= size) {
            throw new IndexOutOfBoundsException();
        }
    }

    static void arg(boolean right) {
        if (!right) {
            throw new IllegalArgumentException();
        }
    }

    int order(int k, int what) {
        needOrder(k);
        Order o = orders.get(k);
        switch (what) {
            case 0: return WORDS.indexOf(o.word);
            case 1: return o.entry;
            case 2: return o.grade;
            case 3: return o.kind;
            case 4: return o.place;
            default: throw new NoSuchElementException();
        }
    }

    boolean grade(int k, int grade) {
        needJump(k);
        arg(grade >= 0 && grade <= 3);
        boolean other = orders.get(k).grade != grade;
        orders.get(k).grade = grade;
        return other;
    }

    void ticks(int grade, int n) {
        arg(grade >= 1 && grade <= 3 && n >= 1 && n <= 99);
        ticks[grade] = n;
    }

    static long bits(Set<Integer> set) {
        long bits = 0;
        for (int k : set) {
            bits |= 1L << k;
        }
        return bits;
    }

    Set<Integer> allOrders() {
        Set<Integer> all = new TreeSet<>();
        for (int k = 0; k < orders.size(); k++) {
            all.add(k);
        }
        return all;
    }

    Set<Integer> onlyOrders(Set<Integer> places) {
        Set<Integer> r = new TreeSet<>(places);
        r.retainAll(allOrders());
        return r;
    }

    Set<Integer> behindCalls() {
        Set<Integer> r = new TreeSet<>();
        for (int k = 0; k < orders.size(); k++) {
            if (List.of("call", "by").contains(orders.get(k).word)) {
                r.add(k + 1);
            }
        }
        return onlyOrders(r);
    }

    /** CELLS whose content may come to this one by sets of one CELL alone, and itself. */
    Set<Integer> sources(int cell) {
        Set<Integer> seen = new TreeSet<>(Set.of(cell));
        Deque<Integer> todo = new ArrayDeque<>(seen);
        while (!todo.isEmpty()) {
            int c = todo.pop();
            for (Order o : orders) {
                if (o.word.equals("set") && o.cell == c && o.sign == null && o.a.startsWith("c")) {
                    int from = Integer.parseInt(o.a.substring(1));
                    if (seen.add(from)) {
                        todo.push(from);
                    }
                }
            }
        }
        return seen;
    }

    Set<Integer> held(int cell) {
        Set<Integer> from = sources(cell);
        Set<Integer> r = new TreeSet<>();
        for (Order o : orders) {
            if (o.word.equals("point") && from.contains(o.cell)) {
                r.add(o.place);
            }
        }
        return r;
    }

    boolean isOdd(int cell) {
        Set<Integer> from = sources(cell);
        for (Order o : orders) {
            if (o.word.equals("set") && from.contains(o.cell) && (o.sign != null || !o.a.startsWith("c"))) {
                return true;
            }
        }
        return false;
    }

    Set<Integer> byKind(int k) {
        Order o = orders.get(k);
        if (o.word.equals("back")) {
            return behindCalls();
        }
        Set<Integer> r = new TreeSet<>();
        for (int j = 0; j < orders.size(); j++) {
            if (orders.get(j).entry == o.kind) {
                r.add(j);
            }
        }
        return r;
    }

    Set<Integer> byFlow(int k) {
        Order o = orders.get(k);
        if (!o.word.equals("back")) {
            return isOdd(o.cell) ? byKind(k) : onlyOrders(held(o.cell));
        }
        Set<Integer> r = new TreeSet<>();
        for (int j = 0; j < orders.size(); j++) {
            Order caller = orders.get(j);
            Set<Integer> land = new TreeSet<>();
            if (caller.word.equals("call")) {
                land.add(caller.place);
            }
            if (caller.word.equals("by")) {
                land.addAll(byFlow(j));
            }
            for (int begin : onlyOrders(land)) {
                if (inside(begin).contains(k)) {
                    r.add(j + 1);
                }
            }
        }
        return onlyOrders(r);
    }

    /** ORDERS that are come to from one, calls being stepped over. */
    Set<Integer> inside(int begin) {
        Set<Integer> seen = new TreeSet<>(Set.of(begin));
        Deque<Integer> todo = new ArrayDeque<>(seen);
        while (!todo.isEmpty()) {
            int k = todo.pop();
            Order o = orders.get(k);
            Set<Integer> to = new TreeSet<>();
            if (List.of("jump", "if").contains(o.word)) {
                to.add(o.place);
            }
            if (o.word.equals("through")) {
                to.addAll(byFlow(k));
            }
            if (!List.of("jump", "through", "back", "stop").contains(o.word)) {
                to.add(k + 1);
            }
            for (int n : onlyOrders(to)) {
                if (seen.add(n)) {
                    todo.push(n);
                }
            }
        }
        return seen;
    }

    Set<Integer> let(int k) {
        switch (orders.get(k).grade) {
            case 0: return allOrders();
            case 1: return byKind(k);
            default: return byFlow(k);
        }
    }

    long landings(int k, boolean flow) {
        needJump(k);
        return bits(flow ? byFlow(k) : byKind(k));
    }

    long lets(int k) {
        needJump(k);
        return bits(let(k));
    }

    long holds(int cell) {
        need(cell, 16);
        return bits(held(cell));
    }

    boolean odd(int cell) {
        need(cell, 16);
        return isOdd(cell);
    }

    int bend(int steps, int cell, int n) {
        need(cell, 17);
        arg(steps >= 0 && steps <= 299);
        if (bends.size() == 8) {
            throw new UnsupportedOperationException();
        }
        bends.add(new int[] {steps, cell, n});
        return bends.size() - 1;
    }

    int straight() {
        int n = bends.size();
        bends.clear();
        return n;
    }

    // ---- RUNS

    /** One place or number with who wrote it last: a BEND's number, or -1. */
    static final class Slot {
        int n;
        int second;
        int by = -1;

        Slot(int n) {
            this.n = n;
            this.second = n;
        }
    }

    final class Run {
        final Slot[] cells = new Slot[16];
        final Deque<Slot> row = new ArrayDeque<>();
        final List<Integer> done = new ArrayList<>();
        final List<Integer> said = new ArrayList<>();
        final List<Boolean> jumpsBad = new ArrayList<>();
        int at;
        int how = -1;
        int spent;
        int lead = -1;
        int landing = -1;

        Run() {
            for (int k = 0; k < 16; k++) {
                cells[k] = new Slot(0);
            }
        }

        long value(String atom) {
            return atom.startsWith("c") ? cells[Integer.parseInt(atom.substring(1))].n : Integer.parseInt(atom);
        }

        boolean so(Order o) {
            long a = value(o.a);
            long b = value(o.b);
            return o.sign.equals("<") ? a < b : o.sign.equals(">") ? a > b : a == b;
        }

        long sum(Order o) {
            if (o.sign == null) {
                return value(o.a);
            }
            long a = value(o.a);
            long b = value(o.b);
            return o.sign.equals("+") ? a + b : o.sign.equals("-") ? a - b : a * b;
        }

        boolean trap() {
            if (at < 0 || at >= orders.size()) {
                return true;
            }
            Order o = orders.get(at);
            return o.word.equals("set") && Math.abs(sum(o)) > 99999
                    || List.of("call", "by").contains(o.word) && row.size() == 8
                    || o.word.equals("back") && row.isEmpty();
        }

        Slot target(Order o) {
            return o.word.equals("back") ? row.peek() : cells[o.cell];
        }

        boolean guarded() {
            Order o = orders.get(at);
            if (!o.jump() || o.grade == 0) {
                return false;
            }
            Slot t = target(o);
            if (o.word.equals("back") && o.grade == 3) {
                return t.n != t.second;
            }
            return !let(at).contains(t.n);
        }

        void doIt() {
            Order o = orders.get(at);
            done.add(at);
            int next = at + 1;
            switch (o.word) {
                case "set": {
                    Slot s = new Slot((int) sum(o));
                    cells[o.cell] = s;
                    break;
                }
                case "point":
                    cells[o.cell] = new Slot(o.place);
                    break;
                case "jump":
                    next = o.place;
                    break;
                case "if":
                    next = so(o) ? o.place : next;
                    break;
                case "through":
                    next = cells[o.cell].n;
                    break;
                case "call":
                case "by":
                    row.push(new Slot(at + 1));
                    next = o.word.equals("call") ? o.place : cells[o.cell].n;
                    break;
                case "back":
                    next = row.pop().n;
                    break;
                case "door":
                    said.add((int) value(o.a));
                    break;
                default:
                    next = at;
                    how = 0;
            }
            at = next;
        }

        Run go(boolean bent, boolean guards) {
            while (how < 0) {
                for (int k = 0; bent && k < bends.size(); k++) {
                    int[] b = bends.get(k);
                    Slot s = b[0] != done.size() ? null : b[1] < 16 ? cells[b[1]] : row.peek();
                    if (s != null) {
                        s.n = b[2];
                        s.by = k;
                    }
                }
                if (done.size() == 300) {
                    how = 2;
                } else if (trap()) {
                    how = 3;
                } else if (guards && guarded()) {
                    how = 1;
                    lead = target(orders.get(at)).by;
                    landing = target(orders.get(at)).n;
                } else {
                    Order o = orders.get(at);
                    if (o.jump()) {
                        jumpsBad.add(guarded());
                        spent += o.grade == 0 ? 0 : ticks[o.grade];
                    }
                    doIt();
                }
            }
            return this;
        }
    }

    int run(boolean bent, int what) {
        if (what < 0 || what > 7) {
            throw new NoSuchElementException();
        }
        Run r = new Run().go(bent, true);
        return new int[] {r.how, r.done.size(), r.spent, r.at, r.said.size(), r.jumpsBad.size(), r.lead,
            r.landing}[what];
    }

    int step(boolean bent, int i) {
        Run r = new Run().go(bent, true);
        return i >= 0 && i < r.done.size() ? r.done.get(i) : -1;
    }

    int said(boolean bent, int i) {
        Run r = new Run().go(bent, true);
        return i >= 0 && i < r.said.size() ? r.said.get(i) : 1000000;
    }

    int cell(boolean bent, int cell) {
        need(cell, 16);
        return new Run().go(bent, true).cells[cell].n;
    }

    int late(int every) {
        arg(every >= 1 && every <= 20);
        List<Boolean> bad = new Run().go(true, false).jumpsBad;
        int done = 0;
        int first = -1;
        for (boolean b : bad) {
            done++;
            if (b && first < 0) {
                first = done;
            }
            if (first > 0 && (done % every == 0 || done == bad.size())) {
                return done - first;
            }
        }
        return -1;
    }

    int judge() {
        List<Integer> done = new Run().go(true, true).done;
        List<Integer> told = new ArrayList<>(tape);
        tape.clear();
        for (int k = 0; k < told.size(); k++) {
            if (k >= done.size() || !told.get(k).equals(done.get(k))) {
                return k;
            }
        }
        return -1;
    }

    // ---- THE BREAKER

    int power(int cells, boolean row) {
        arg((cells & ~0xffff) == 0);
        if (powers.size() == 6) {
            throw new UnsupportedOperationException();
        }
        powers.add(new int[] {cells, row ? 1 : 0});
        return powers.size() - 1;
    }

    int harm(int word) {
        arg(word >= 0 && word <= 999);
        if (harms.size() == 8) {
            throw new UnsupportedOperationException();
        }
        harms.add(word);
        return harms.size() - 1;
    }

    boolean canBend(int power, int cell) {
        return (powers.get(power)[0] & 1 << cell) != 0;
    }

    boolean canBend(int power, String atom) {
        return atom.startsWith("c") && canBend(power, Integer.parseInt(atom.substring(1)));
    }

    Set<Integer> may(int k, int power) {
        Order o = orders.get(k);
        Set<Integer> to = new TreeSet<>();
        switch (o.word) {
            case "stop":
                break;
            case "jump":
            case "call":
                to.add(o.place);
                break;
            case "if": {
                boolean fixed = !o.a.startsWith("c") && !o.b.startsWith("c");
                boolean so = fixed && new Run().so(o);
                if (!fixed || so) {
                    to.add(o.place);
                }
                if (!so) {
                    to.add(k + 1);
                }
                break;
            }
            case "through":
            case "by":
                to.addAll(canBend(power, o.cell) || isOdd(o.cell) ? allOrders() : held(o.cell));
                to.retainAll(let(k));
                break;
            case "back":
                to.addAll(powers.get(power)[1] == 1 && o.grade < 3 ? allOrders() : behindCalls());
                to.retainAll(let(k));
                break;
            default:
                to.add(k + 1);
        }
        return onlyOrders(to);
    }

    boolean mayHarm(int k, int harm) {
        Order o = orders.get(k);
        return o.word.equals("door") && (o.a.startsWith("c") || Integer.parseInt(o.a) == harms.get(harm));
    }

    /** The rows grow by one ORDER a round, the least ones first; an ORDER keeps the first row that comes to it. */
    List<Integer> findRow(int power, int harm) {
        List<List<Integer>> rows = new ArrayList<>();
        Set<Integer> seen = new TreeSet<>(Set.of(0));
        if (!orders.isEmpty()) {
            rows.add(List.of(0));
        }
        while (!rows.isEmpty()) {
            List<List<Integer>> longer = new ArrayList<>();
            for (List<Integer> row : rows) {
                if (mayHarm(row.get(row.size() - 1), harm)) {
                    return row;
                }
            }
            for (List<Integer> row : rows) {
                for (int n : may(row.get(row.size() - 1), power)) {
                    if (seen.add(n)) {
                        List<Integer> more = new ArrayList<>(row);
                        more.add(n);
                        longer.add(more);
                    }
                }
            }
            rows = longer;
        }
        return List.of();
    }

    int reach(int power, int harm) {
        need(power, powers.size());
        need(harm, harms.size());
        List<Integer> row = findRow(power, harm);
        return row.isEmpty() ? 0 : tried(row, power, harms.get(harm)) ? 1 : 2;
    }

    private boolean tried(List<Integer> row, int power, int harm) {
        Run r = new Run();
        for (int k = 0; k < row.size(); k++) {
            if (r.at != row.get(k)) {
                return false;
            }
            Order o = orders.get(r.at);
            int goal = k + 1 < row.size() ? row.get(k + 1) : -1;
            if (goal == -1) {
                if (canBend(power, o.a)) {
                    r.cells[Integer.parseInt(o.a.substring(1))].n = harm;
                }
                return r.value(o.a) == harm;
            }
            if (o.word.equals("if") && o.place != r.at + 1 && (so(r, o) ? o.place : r.at + 1) != goal) {
                bendIf(r, o, power, goal == o.place);
            }
            if ((o.word.equals("through") || o.word.equals("by")) && canBend(power, o.cell)) {
                r.cells[o.cell].n = goal;
            }
            if (o.word.equals("back") && powers.get(power)[1] == 1 && !r.row.isEmpty()) {
                r.row.peek().n = goal;
            }
            if (r.trap() || o.word.equals("back") && o.grade == 3 && r.row.peek().second != goal) {
                return false;
            }
            r.doIt();
        }
        throw new IllegalStateException("a row ends at its door");
    }

    private static boolean so(Run r, Order o) {
        return r.so(o);
    }

    private void bendIf(Run r, Order o, int power, boolean wanted) {
        String mine = canBend(power, o.a) ? o.a : canBend(power, o.b) ? o.b : null;
        if (mine == null) {
            return;
        }
        int other = (int) r.value(mine == o.a ? o.b : o.a);
        Slot s = r.cells[Integer.parseInt(mine.substring(1))];
        int was = s.n;
        for (int far = 0; far < 3; far++) {
            for (int sign = 1; sign >= -1; sign -= 2) {
                s.n = other + sign * far;
                if (r.so(o) == wanted) {
                    return;
                }
            }
        }
        s.n = was;
    }

    int row(int power, int harm, int i) {
        need(power, powers.size());
        need(harm, harms.size());
        List<Integer> row = findRow(power, harm);
        return i >= 0 && i < row.size() ? row.get(i) : -1;
    }

    Set<Integer> closedSet(int power) {
        Set<Integer> seen = new TreeSet<>();
        Deque<Integer> todo = new ArrayDeque<>();
        if (!orders.isEmpty()) {
            seen.add(0);
            todo.add(0);
        }
        while (!todo.isEmpty()) {
            for (int n : may(todo.pop(), power)) {
                if (seen.add(n)) {
                    todo.push(n);
                }
            }
        }
        return seen;
    }

    long closed(int power) {
        need(power, powers.size());
        return bits(closedSet(power));
    }

    int least(int power, int harm, int order) {
        need(power, powers.size());
        need(harm, harms.size());
        if (order != -1) {
            needOrder(order);
        }
        List<Integer> jumps = new ArrayList<>();
        for (int k = 0; k < orders.size() && jumps.size() < 6; k++) {
            if (orders.get(k).jump()) {
                jumps.add(k);
            }
        }
        int[] had = new int[jumps.size()];
        for (int k = 0; k < had.length; k++) {
            had[k] = orders.get(jumps.get(k)).grade;
        }
        int[] best = new int[had.length + 1];
        best[had.length] = -1;
        tryGrades(power, harm, jumps, 0, best);
        for (int k = 0; k < had.length; k++) {
            orders.get(jumps.get(k)).grade = had[k];
        }
        if (order == -1 || best[had.length] == -1) {
            return best[had.length];
        }
        return jumps.contains(order) ? best[jumps.indexOf(order)] : -1;
    }

    private void tryGrades(int power, int harm, List<Integer> jumps, int k, int[] best) {
        if (k == jumps.size()) {
            int cost = 0;
            for (int j : jumps) {
                cost += orders.get(j).grade == 0 ? 0 : ticks[orders.get(j).grade];
            }
            if (best[k] != -1 && cost >= best[k]) {
                return;
            }
            for (int door : closedSet(power)) {
                if (mayHarm(door, harm)) {
                    return;
                }
            }
            best[k] = cost;
            for (int j = 0; j < k; j++) {
                best[j] = orders.get(jumps.get(j)).grade;
            }
            return;
        }
        Order o = orders.get(jumps.get(k));
        for (int g = 0; g <= (o.word.equals("back") ? 3 : 2); g++) {
            o.grade = g;
            tryGrades(power, harm, jumps, k + 1, best);
        }
    }

    private List<Integer> graded() {
        List<Integer> r = new ArrayList<>();
        for (int k = 0; k < orders.size(); k++) {
            if (orders.get(k).jump() && orders.get(k).grade > 0) {
                r.add(k);
            }
        }
        return r;
    }

    int marks() {
        List<Integer> jumps = graded();
        int[] mark = new int[jumps.size()];
        for (int k = 0; k < mark.length; k++) {
            mark[k] = k;
        }
        for (int k = 0; k < mark.length; k++) {
            for (int j = 0; j < k; j++) {
                if ((bits(let(jumps.get(k))) & bits(let(jumps.get(j)))) != 0) {
                    int old = mark[k];
                    int now = mark[j];
                    for (int i = 0; i < mark.length; i++) {
                        mark[i] = mark[i] == old ? now : mark[i];
                    }
                }
            }
        }
        return (int) Arrays.stream(mark).distinct().count();
    }

    int joined(int marks) {
        arg(marks >= 1 && marks <= 16);
        List<Long> own = new ArrayList<>();
        for (int k : graded()) {
            if (own.size() < 6) {
                own.add(bits(let(k)));
            }
        }
        return part(own, new ArrayList<>(), marks);
    }

    /** All ways to put each JUMP into a heap that is there or a new one. */
    private int part(List<Long> own, List<Integer> heapOf, int marks) {
        if (heapOf.size() == own.size()) {
            int cost = 0;
            for (int k = 0; k < own.size(); k++) {
                long all = 0;
                for (int j = 0; j < own.size(); j++) {
                    if (heapOf.get(j).equals(heapOf.get(k))) {
                        all |= own.get(j);
                    } else if ((own.get(j) & own.get(k)) != 0) {
                        return Integer.MAX_VALUE;
                    }
                }
                cost += Long.bitCount(all) - Long.bitCount(own.get(k));
            }
            return cost;
        }
        int heaps = heapOf.stream().mapToInt(x -> x + 1).max().orElse(0);
        int best = Integer.MAX_VALUE;
        for (int h = 0; h <= heaps && h < marks; h++) {
            List<Integer> more = new ArrayList<>(heapOf);
            more.add(h);
            best = Math.min(best, part(own, more, marks));
        }
        return best;
    }

    int fence(int from, int to, long doors, int power) {
        needOrder(from);
        needOrder(to);
        need(power, powers.size());
        arg(from <= to);
        for (int k : closedSet(power)) {
            if (k < from || k > to) {
                for (int n : may(k, power)) {
                    if (n >= from && n <= to && (doors >> n & 1) == 0) {
                        return k;
                    }
                }
            }
        }
        return -1;
    }

    // ---- THE IMAGE and counts

    private void take(Model other) {
        orders = new ArrayList<>();
        for (Order o : other.orders) {
            orders.add(o.copy());
        }
        ticks = other.ticks.clone();
        bends = new ArrayList<>(other.bends);
        powers = new ArrayList<>(other.powers);
        harms = new ArrayList<>(other.harms);
    }

    void image() {
        kept = new Model();
        kept.take(this);
    }

    boolean back() {
        if (kept == null) {
            return false;
        }
        take(kept);
        return true;
    }

    int count(int what) {
        int n = 0;
        switch (what) {
            case 0: return orders.size();
            case 1: return (int) orders.stream().filter(Order::jump).count();
            case 2: return graded().size();
            case 3: return bends.size();
            case 4: return powers.size();
            case 5: return harms.size();
            case 6: return (int) orders.stream().filter(o -> o.entry >= 0).count();
            case 7:
                for (int c = 0; c < 16; c++) {
                    n += isOdd(c) ? 1 : 0;
                }
                return n;
            case 8:
            case 9:
                for (int p = 0; p < powers.size(); p++) {
                    for (int h = 0; h < harms.size(); h++) {
                        n += reach(p, h) == what - 8 ? 1 : 0;
                    }
                }
                return n;
            default: return -1;
        }
    }
}
