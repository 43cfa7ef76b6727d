import java.math.BigInteger;
import java.util.ArrayDeque;
import java.util.ArrayList;
import java.util.Arrays;
import java.util.Deque;
import java.util.HashMap;
import java.util.List;
import java.util.Map;
import java.util.NoSuchElementException;

/**
 * The document once more, as plainly as can be and without regard to speed or room: host's CELLS are kept
 * as the host's, THE LAW is read anew each time, and ways are found by trying all.
 */
final class Model {
    static final int NONE = -1;
    static final List<String> MICROS = List.of("add", "load", "save", "rise", "drop", "move", "where", "who",
        "time", "skip", "quiet");

    /** One OP. */
    static final class Op {
        List<int[]> micros = new ArrayList<>();
        boolean guarded;
        boolean patched;

        Op copy() {
            Op o = new Op();
            o.micros = new ArrayList<>(micros);
            o.guarded = guarded;
            o.patched = patched;
            return o;
        }

        String key() {
            StringBuilder b = new StringBuilder(guarded ? "g" : "");
            for (int[] m : micros) {
                b.append(' ').append(m[0]).append(':').append(m[1]);
            }
            return b.toString();
        }
    }

    /** The machine's registers and CELLS. */
    static final class Machine {
        int r;
        int mode;
        int base;
        int clock;
        int[] cells = new int[8];
        boolean skips;

        static Machine state(int s) {
            Machine m = new Machine();
            m.r = s % 4;
            m.mode = s / 4 % 2;
            m.base = 2 * (s / 8 % 4);
            int pattern = s / 32 % 16;
            for (int k = 0; k < 8; k++) {
                m.cells[k] = (pattern % 4 * k + pattern / 4) % 4;
            }
            return m;
        }

        void doOp(Op op) {
            skips = false;
            for (int[] m : op.micros) {
                int n = m[1];
                switch (MICROS.get(m[0])) {
                    case "add" -> r = (r + n) % 4;
                    case "load" -> r = cells[(n + base) % 8];
                    case "save" -> cells[(n + base) % 8] = r;
                    case "rise" -> mode = 1;
                    case "drop" -> mode = 0;
                    case "move" -> base = 2 * r;
                    case "where" -> r = base / 2;
                    case "who" -> r = mode;
                    case "time" -> r = clock % 4;
                    case "skip" -> skips = skips || r == n % 4;
                    default -> {
                        if (mode == 0) {
                            return;
                        }
                    }
                }
            }
        }
    }

    /** The BARE guest, or the HOSTED one: then mode and base are VIRTUAL and cells are the host's. */
    static final class Guest {
        int pc;
        int r;
        int mode = 1;
        int base;
        int clock;
        int[] cells = new int[8];

        Guest copy() {
            Guest g = new Guest();
            g.pc = pc;
            g.r = r;
            g.mode = mode;
            g.base = base;
            g.clock = clock;
            g.cells = cells.clone();
            return g;
        }
    }

    /** All but the TAPE, fault() and THE IMAGE. */
    static final class All {
        List<Op> ops = new ArrayList<>();
        List<Integer> program = new ArrayList<>();
        int[] first = new int[8];
        int vector;
        int shift = 2;
        int cost = 1;
        int alarm;
        int tick;
        int purse;
        int seed = 1;
        int texts;
        String law;
        Guest bare = new Guest();
        Guest hosted = new Guest();
        List<int[]> log = new ArrayList<>();

        All copy() {
            All a = new All();
            for (Op op : ops) {
                a.ops.add(op.copy());
            }
            a.program = new ArrayList<>(program);
            a.first = first.clone();
            a.vector = vector;
            a.shift = shift;
            a.cost = cost;
            a.alarm = alarm;
            a.tick = tick;
            a.purse = purse;
            a.seed = seed;
            a.texts = texts;
            a.law = law;
            a.bare = bare.copy();
            a.hosted = hosted.copy();
            a.log = new ArrayList<>(log);
            return a;
        }
    }

    private static final Map<String, int[]> WITNESSES = new HashMap<>();

    private All all = new All();
    private String tape = "";
    private int fault = NONE;
    private All image;
    private final Deque<All> past = new ArrayDeque<>();

    Model() {
        boot(all);
    }

    // ---- the machine and the guests

    static int[] own(All a, Guest g) {
        if (g == a.bare) {
            return g.cells;
        }
        int[] cells = new int[8];
        for (int k = 0; k < 8; k++) {
            cells[k] = g.cells[(k + a.shift) % 8];
        }
        return cells;
    }

    static void boot(All a) {
        a.bare = new Guest();
        a.bare.cells = a.first.clone();
        a.hosted = new Guest();
        for (int k = 0; k < 8; k++) {
            a.hosted.cells[(k + a.shift) % 8] = a.first[k];
        }
    }

    static boolean halted(All a, Guest g) {
        return g.pc >= a.program.size();
    }

    static void stepBare(All a) {
        Guest g = a.bare;
        if (halted(a, g)) {
            return;
        }
        Op op = a.ops.get(a.program.get(g.pc));
        if (op.guarded && g.mode == 0) {
            g.mode = 1;
            g.pc = a.vector;
        } else {
            run(g, op, g.cells, g.mode, g.base, true);
        }
        g.clock = (g.clock + 1) % 8;
    }

    /** Leaves MODE alone unless it is asked to take it over: what MODE is behind the OP. */
    static int run(Guest g, Op op, int[] cells, int mode, int base, boolean takes) {
        Machine m = new Machine();
        m.r = g.r;
        m.mode = mode;
        m.base = base;
        m.clock = g.clock;
        m.cells = cells;
        m.doOp(op);
        g.r = m.r;
        g.base = m.base;
        if (takes) {
            g.mode = m.mode;
        }
        g.pc = Math.min(12, g.pc + (m.skips ? 2 : 1));
        return m.mode;
    }

    /** -1 HALTED, 0 REFLECTED, 1 EMULATED, 2 an ESCAPE, 3 let through without. */
    static int stepHosted(All a) {
        Guest g = a.hosted;
        if (halted(a, g)) {
            return -1;
        }
        int number = a.program.get(g.pc);
        Op op = a.ops.get(number);
        int more = 1 + lawOf(a, number, "cost") + a.cost;
        if (op.guarded && g.mode == 0) {
            g.mode = 1;
            g.pc = a.vector;
            g.clock = (g.clock + more) % 8;
            return 0;
        }
        if (op.guarded || op.patched) {
            int[] cells = own(a, g);
            run(g, op, cells, g.mode, g.base, true);
            for (int k = 0; k < 8; k++) {
                g.cells[(k + a.shift) % 8] = cells[k];
            }
            g.clock = (g.clock + more) % 8;
            return 1;
        }
        int mode = run(g, op, g.cells, 0, (g.base + a.shift) % 8, false);
        g.base = g.base - a.shift < 0 ? g.base - a.shift + 8 : g.base - a.shift;
        g.clock = (g.clock + 1) % 8;
        return mode == 1 ? 2 : 3;
    }

    static boolean alike(All a) {
        return a.bare.pc == a.hosted.pc && a.bare.r == a.hosted.r && a.bare.mode == a.hosted.mode
            && a.bare.base == a.hosted.base && Arrays.equals(own(a, a.bare), own(a, a.hosted));
    }

    static boolean tick(All a) {
        a.seed = a.seed * 1103515245 + 12345;
        int draw = a.seed >> 16 & 32767;
        boolean was = alike(a);
        int pc = a.hosted.pc;
        boolean alarm = draw % 100 < a.alarm;
        int op = alarm || halted(a, a.hosted) ? NONE : a.program.get(pc);
        int came = -1;
        if (alarm) {
            for (Guest g : List.of(a.bare, a.hosted)) {
                g.mode = 1;
                g.pc = a.vector;
            }
            a.log.add(new int[] {a.tick, NONE, 4, pc});
        } else {
            stepBare(a);
            came = stepHosted(a);
            if (came >= 0 && came <= 2) {
                a.log.add(new int[] {a.tick, op, came, pc});
            }
        }
        if (was && !alike(a)) {
            a.log.add(new int[] {a.tick, op, 3, pc});
        }
        while (a.log.size() > 60) {
            a.log.remove(0);
        }
        a.tick = Math.min(9999, a.tick + 1);
        if (came == 0 || came == 1) {
            a.purse = Math.min(9999, a.purse + 1 + lawOf(a, op, "worth"));
            return true;
        }
        return false;
    }

    // ---- what OPS are like

    static boolean differ(Machine x, Machine y) {
        return x.r != y.r || x.skips != y.skips || !Arrays.equals(x.cells, y.cells);
    }

    static boolean shows(Op op, int s, int what) {
        Machine x = Machine.state(s);
        if (op.guarded && x.mode == 0) {
            return false;
        }
        int mode = x.mode;
        int base = x.base;
        int[] cells = x.cells.clone();
        x.doOp(op);
        Machine y = Machine.state(s);
        switch (what) {
            case 0:
                return x.mode != mode || x.base != base;
            case 1:
                y.mode = 1;
                y.doOp(op);
                return mode == 0 && differ(x, y);
            case 2:
                y.base = 0;
                for (int k = 0; k < 8; k++) {
                    y.cells[k] = cells[(k + base) % 8];
                }
                y.doOp(op);
                for (int k = 0; k < 8; k++) {
                    if (x.cells[(k + base) % 8] != y.cells[k]) {
                        return true;
                    }
                }
                return x.r != y.r || x.skips != y.skips;
            default:
                for (int clock = 1; clock <= 7; clock++) {
                    y = Machine.state(s);
                    y.clock = clock;
                    y.doOp(op);
                    if (differ(x, y)) {
                        return true;
                    }
                }
                return false;
        }
    }

    static int witness(Op op, int what) {
        return WITNESSES.computeIfAbsent(op.key(), key -> {
            int[] found = {NONE, NONE, NONE, NONE};
            for (int w = 0; w < 4; w++) {
                for (int s = 511; s >= 0; s--) {
                    if (shows(op, s, w)) {
                        found[w] = s;
                    }
                }
            }
            return found;
        })[what];
    }

    static boolean is(Op op, int what) {
        return witness(op, what) != NONE;
    }

    static boolean sensitive(Op op) {
        return is(op, 0) || is(op, 1) || is(op, 2);
    }

    static int uses(All a, int op) {
        int n = 0;
        for (int p : a.program) {
            n += p == op ? 1 : 0;
        }
        return n;
    }

    // ---- texts

    /** A wrong text, and where. */
    static final class Wrong extends Exception {
        private static final long serialVersionUID = 1L;
        final int at;

        Wrong(int at) {
            this.at = at;
        }
    }

    /** Words, numbers and signs of a text, and where each begins. */
    static final class Things {
        final List<String> what = new ArrayList<>();
        final List<Integer> where = new ArrayList<>();
        int i;

        Things(String text) {
            int at = 0;
            while (at < text.length()) {
                char c = text.charAt(at);
                int to = at + 1;
                if (c >= 'a' && c <= 'z') {
                    while (to < text.length() && text.charAt(to) >= 'a' && text.charAt(to) <= 'z') {
                        to++;
                    }
                } else if (c >= '0' && c <= '9') {
                    while (to < text.length() && text.charAt(to) >= '0' && text.charAt(to) <= '9') {
                        to++;
                    }
                }
                if (c != ' ') {
                    what.add(text.substring(at, to));
                    where.add(at);
                }
                at = to;
            }
            what.add("");
            where.add(text.length());
        }

        String now() {
            return what.get(i);
        }

        boolean eat(String s) {
            if (now().equals(s)) {
                i++;
                return true;
            }
            return false;
        }

        Wrong wrong() {
            return new Wrong(where.get(i));
        }

        boolean isNumber() {
            return !now().isEmpty() && Character.isDigit(now().charAt(0)) && now().charAt(0) < 128;
        }

        int number(int most) throws Wrong {
            if (!isNumber() || now().length() > 3 || Integer.parseInt(now()) > most) {
                throw wrong();
            }
            return Integer.parseInt(what.get(i++));
        }
    }

    static void readBench(All a, String text) throws Wrong {
        Things t = new Things(text);
        if (t.now().isEmpty()) {
            return;
        }
        for (int line = 0; ; line++) {
            if (line == 14) {
                throw t.wrong();
            }
            readBenchLine(a, t);
            if (t.now().isEmpty()) {
                return;
            }
            if (!t.eat(";")) {
                throw t.wrong();
            }
        }
    }

    static void readBenchLine(All a, Things t) throws Wrong {
        if (t.now().equals("op") && a.ops.size() == 8) {
            throw t.wrong();
        }
        if (t.eat("op")) {
            Op op = new Op();
            op.guarded = t.eat("guarded");
            do {
                int kind = MICROS.indexOf(t.now());
                if (kind < 0 || op.micros.size() == 3) {
                    throw t.wrong();
                }
                t.i++;
                op.micros.add(new int[] {kind, List.of(0, 1, 2, 9).contains(kind) ? t.number(7) : 0});
            } while (!t.now().equals(";") && !t.now().isEmpty());
            a.ops.add(op);
        } else if (t.eat("program")) {
            a.program.clear();
            while (t.isNumber()) {
                if (a.program.size() == 10) {
                    throw t.wrong();
                }
                a.program.add(t.number(a.ops.size() - 1));
            }
        } else if (t.eat("cells")) {
            int k = 0;
            do {
                if (k == 8) {
                    throw t.wrong();
                }
                a.first[k++] = t.number(3);
            } while (t.isNumber());
        } else if (t.eat("vector")) {
            a.vector = t.number(9);
        } else if (t.eat("shift")) {
            a.shift = 2 * t.number(3);
        } else if (t.eat("cost")) {
            a.cost = t.number(7);
        } else if (t.eat("alarm")) {
            a.alarm = t.number(100);
        } else if (t.eat("purse")) {
            a.purse = t.number(999);
        } else {
            throw t.wrong();
        }
    }

    /** Reads THE LAW with one OP in mind: sums of cost, blame and worth, and how many LINES. */
    static int[] readLaw(All a, int op, String text) throws Wrong {
        int[] sums = new int[4];
        Things t = new Things(text);
        while (!t.now().isEmpty()) {
            int sort = List.of("cost", "blame", "worth").indexOf(t.now());
            if (sort < 0 || sums[3] == 12) {
                throw t.wrong();
            }
            t.i++;
            int n = t.number(40);
            if (!t.eat("if") || any(a, op, t, 0)) {
                sums[sort] += n;
            }
            sums[3]++;
            if (!t.now().isEmpty()) {
                if (!t.eat(";") || t.now().isEmpty()) {
                    throw t.wrong();
                }
            }
        }
        return sums;
    }

    static boolean any(All a, int op, Things t, int deep) throws Wrong {
        boolean is = every(a, op, t, deep);
        while (t.eat("or")) {
            is |= every(a, op, t, deep);
        }
        return is;
    }

    static boolean every(All a, int op, Things t, int deep) throws Wrong {
        boolean is = atom(a, op, t, deep);
        while (t.eat("and")) {
            is &= atom(a, op, t, deep);
        }
        return is;
    }

    static boolean atom(All a, int op, Things t, int deep) throws Wrong {
        if ((t.now().equals("not") || t.now().equals("(")) && deep == 6) {
            throw t.wrong();
        }
        if (t.eat("not")) {
            return !atom(a, op, t, deep + 1);
        }
        if (t.eat("(")) {
            boolean is = any(a, op, t, deep + 1);
            if (!t.eat(")")) {
                throw t.wrong();
            }
            return is;
        }
        Op o = op == NONE ? null : a.ops.get(op);
        if (t.eat("guarded")) {
            return o != null && o.guarded;
        }
        if (t.eat("patched")) {
            return o != null && o.patched;
        }
        if (t.eat("sensitive")) {
            return o != null && sensitive(o);
        }
        int left = sum(a, op, t);
        if (t.eat("<")) {
            return left < sum(a, op, t);
        }
        if (t.eat(">")) {
            return left > sum(a, op, t);
        }
        throw t.wrong();
    }

    static int sum(All a, int op, Things t) throws Wrong {
        int sum = part(a, op, t);
        while (t.eat("+")) {
            sum += part(a, op, t);
        }
        return sum;
    }

    static int part(All a, int op, Things t) throws Wrong {
        int trait = List.of("control", "modal", "local", "timed").indexOf(t.now());
        if (trait >= 0) {
            t.i++;
            return op != NONE && is(a.ops.get(op), trait) ? 1 : 0;
        }
        if (t.eat("op")) {
            return op;
        }
        if (t.eat("micros")) {
            return op == NONE ? 0 : a.ops.get(op).micros.size();
        }
        if (t.eat("uses")) {
            return uses(a, op);
        }
        return t.number(999);
    }

    static int lawOf(All a, int op, String sort) {
        if (a.law == null) {
            return 0;
        }
        try {
            return readLaw(a, op, a.law)[List.of("cost", "blame", "worth").indexOf(sort)];
        } catch (Wrong w) {
            throw new AssertionError("a law that is kept is right");
        }
    }

    static int emulation(All a, int op) {
        return a.cost + lawOf(a, op, "cost");
    }

    // ---- the calls

    private static void need(boolean is) {
        if (!is) {
            throw new IllegalArgumentException();
        }
    }

    private static void needWhat(boolean is) {
        if (!is) {
            throw new NoSuchElementException();
        }
    }

    private Op opOf(int op) {
        if (op < 0 || op >= all.ops.size()) {
            throw new IndexOutOfBoundsException();
        }
        return all.ops.get(op);
    }

    private void remember() {
        past.addLast(all.copy());
        if (past.size() > 12) {
            past.removeFirst();
        }
    }

    private static int bit(boolean is) {
        return is ? 1 : 0;
    }

    int feed(int... five) {
        if (tape.length() + 20 > 400) {
            return NONE;
        }
        for (int n : five) {
            for (int k = 3; k >= 0; k--) {
                tape += (char) (n >>> 8 * k & 255);
            }
        }
        return tape.length();
    }

    boolean end(int n) {
        if (n < 0 || n > tape.length()) {
            return false;
        }
        tape = tape.substring(0, n);
        return true;
    }

    private String take() {
        String text = tape;
        tape = "";
        return text;
    }

    int bench() {
        All a = all.copy();
        try {
            fault = NONE;
            readBench(a, take());
        } catch (Wrong w) {
            fault = w.at;
            throw new IllegalArgumentException();
        }
        if (all.texts == 12) {
            throw new UnsupportedOperationException();
        }
        all = a;
        all.texts++;
        boot(all);
        past.clear();
        return all.texts;
    }

    int law() {
        String text = take();
        try {
            fault = NONE;
            int lines = readLaw(all, NONE, text)[3];
            all.law = text;
            past.clear();
            return lines;
        } catch (Wrong w) {
            fault = w.at;
            throw new IllegalArgumentException();
        }
    }

    int fault() {
        return fault;
    }

    int op(int op, int what) {
        Op o = opOf(op);
        switch (what) {
            case 0: return o.micros.size();
            case 1: return bit(o.guarded);
            case 2: return bit(o.patched);
            case 3: case 4: case 5: case 6: return bit(is(o, what - 3));
            case 7: return bit(sensitive(o));
            case 8: return emulation(all, op);
            case 9: return lawOf(all, op, "blame");
            case 10: return 1 + lawOf(all, op, "worth");
            case 11: return uses(all, op);
            case 12: return all.program.isEmpty() ? 0 : 100 * uses(all, op) / all.program.size();
            default: throw new NoSuchElementException();
        }
    }

    int micro(int op, int k, boolean n) {
        Op o = opOf(op);
        return k < 0 || k >= o.micros.size() ? NONE : o.micros.get(k)[n ? 1 : 0];
    }

    int witness(int op, int what) {
        Op o = opOf(op);
        needWhat(what >= 0 && what <= 3);
        return witness(o, what);
    }

    int done(int op, int state, int what) {
        Op o = opOf(op);
        need(state >= 0 && state <= 511);
        needWhat(what >= 0 && what <= 12);
        Machine m = Machine.state(state);
        boolean traps = o.guarded && m.mode == 0;
        if (what == 0 || traps) {
            return what == 0 ? bit(traps) : NONE;
        }
        m.doOp(o);
        int[] row = {0, m.r, m.mode, m.base, bit(m.skips)};
        return what < 5 ? row[what] : m.cells[what - 5];
    }

    int program(int k) {
        return k < 0 || k >= all.program.size() ? NONE : all.program.get(k);
    }

    int cell(int cell) {
        if (cell < 0 || cell > 7) {
            throw new IndexOutOfBoundsException();
        }
        return all.first[cell];
    }

    int guest(boolean hosted, int what) {
        needWhat(what >= 0 && what <= 13);
        Guest g = hosted ? all.hosted : all.bare;
        int[] row = {g.pc, g.r, g.mode, g.base, g.clock, bit(halted(all, g))};
        return what < 6 ? row[what] : own(all, g)[what - 6];
    }

    private static int ticks(All a, int n) {
        int traps = 0;
        for (int i = 0; i < n; i++) {
            traps += bit(tick(a));
        }
        return traps;
    }

    int ticks(int n) {
        need(n >= 1 && n <= 60);
        remember();
        return ticks(all, n);
    }

    void boot() {
        remember();
        boot(all);
    }

    boolean patch(int op, boolean is) {
        opOf(op);
        remember();
        boolean was = all.ops.get(op).patched;
        all.ops.get(op).patched = is;
        boot(all);
        return was != is;
    }

    boolean guard(int op, boolean is) {
        opOf(op);
        remember();
        boolean was = all.ops.get(op).guarded;
        all.ops.get(op).guarded = is;
        boot(all);
        return was != is;
    }

    int put(int place, int op) {
        opOf(op);
        if (place < 0 || place > Math.min(9, all.program.size())) {
            throw new IndexOutOfBoundsException();
        }
        remember();
        int was = program(place);
        if (was == NONE) {
            all.program.add(op);
        } else {
            all.program.set(place, op);
        }
        boot(all);
        return was;
    }

    int store(int cell, int n) {
        int was = cell(cell);
        need(n >= 0 && n <= 3);
        remember();
        all.first[cell] = n;
        boot(all);
        return was;
    }

    int set(String what, int n) {
        need(n >= 0 && n <= Map.of("vector", 9, "shift", 3, "cost", 7, "alarm", 100).get(what));
        remember();
        int was;
        switch (what) {
            case "vector" -> {
                was = all.vector;
                all.vector = n;
            }
            case "shift" -> {
                was = all.shift / 2;
                all.shift = 2 * n;
            }
            case "cost" -> {
                was = all.cost;
                all.cost = n;
            }
            default -> {
                was = all.alarm;
                all.alarm = n;
            }
        }
        boot(all);
        return was;
    }

    boolean hostable() {
        for (Op op : all.ops) {
            if (sensitive(op) && !op.guarded) {
                return false;
            }
        }
        return true;
    }

    boolean alike() {
        return alike(all);
    }

    private static int leaks(All a) {
        boot(a);
        for (int n = 1; n <= 60; n++) {
            stepBare(a);
            stepHosted(a);
            if (!alike(a)) {
                return n;
            }
        }
        return NONE;
    }

    int leaks() {
        return leaks(all.copy());
    }

    int traps(int n) {
        need(n >= 0 && n <= 60);
        All a = all.copy();
        boot(a);
        int found = 0;
        for (int i = 0; i < n; i++) {
            int came = stepHosted(a);
            found += bit(came == 0 || came == 1);
        }
        return found;
    }

    int depth(int n, int d) {
        need(n >= 0 && n <= 60 && d >= 0 && d <= 5);
        All a = all.copy();
        boot(a);
        int taken = 0;
        for (int i = 0; i < n && !halted(a, a.hosted); i++) {
            int op = a.program.get(a.hosted.pc);
            int came = stepHosted(a);
            taken += 1 + (came == 0 || came == 1 ? d * emulation(a, op) : 0);
        }
        return taken;
    }

    int least() {
        int bits = 0;
        for (int i = 0; i < all.ops.size(); i++) {
            Op op = all.ops.get(i);
            if (sensitive(op) && !op.guarded && !op.patched) {
                bits += 1 << i;
            }
        }
        return bits;
    }

    int proof() {
        int n = all.ops.size();
        for (int size = 1; size <= 3; size++) {
            for (int x = 0; x < n; x++) {
                for (int y = 0; y < (size > 1 ? n : 1); y++) {
                    for (int z = 0; z < (size > 2 ? n : 1); z++) {
                        All a = all.copy();
                        a.program = new ArrayList<>(List.of(x, y, z).subList(0, size));
                        if (leaks(a) != NONE) {
                            String figures = "";
                            for (int p : a.program) {
                                figures += p + 1;
                            }
                            return 1000 * size + Integer.parseInt(figures);
                        }
                    }
                }
            }
        }
        return NONE;
    }

    private static boolean clash(Op x, Op y) {
        for (int[] m : x.micros) {
            for (int[] k : y.micros) {
                boolean saves = m[0] == 2 && k[0] == 2 || m[0] == 2 && k[0] == 1 || m[0] == 1 && k[0] == 2;
                if (saves && m[1] == k[1]) {
                    return true;
                }
            }
        }
        return false;
    }

    boolean clash(int op, int other) {
        Op x = opOf(op);
        Op y = opOf(other);
        need(op != other);
        return clash(x, y);
    }

    int beside() {
        int best = 0;
        sets:
        for (int set = 0; set < 1 << all.ops.size(); set++) {
            for (int i = 0; i < all.ops.size(); i++) {
                for (int j = 0; j < all.ops.size(); j++) {
                    boolean in = (set >> i & 1) == 1 && (set >> j & 1) == 1;
                    if (in && i != j && clash(all.ops.get(i), all.ops.get(j))) {
                        continue sets;
                    }
                }
            }
            if (Integer.bitCount(set) > Integer.bitCount(best)) {
                best = set;
            }
        }
        return best;
    }

    int open() {
        int n = 0;
        for (Op op : all.ops) {
            n += bit(sensitive(op) && !op.guarded);
        }
        return n;
    }

    private static int feature(Op op, int what) {
        switch (what) {
            case 0: return op.micros.size();
            case 1: return bit(op.guarded);
            case 6: return op.micros.get(0)[0];
            default: return bit(is(op, what - 2));
        }
    }

    private String rows() {
        String rows = take();
        need(rows.length() <= 40 && rows.length() % 2 == 0);
        for (int i = 0; i < rows.length(); i++) {
            need(rows.charAt(i) <= (i % 2 == 0 ? 6 : 10));
        }
        return rows;
    }

    private static int wrong(Op op, String rows) {
        int n = 0;
        for (int i = 0; i < rows.length(); i += 2) {
            n += bit(feature(op, rows.charAt(i)) != rows.charAt(i + 1));
        }
        return n;
    }

    private int which(String rows) {
        int bits = 0;
        for (int i = 0; i < all.ops.size(); i++) {
            bits += bit(wrong(all.ops.get(i), rows) < 2) << i;
        }
        return bits;
    }

    int which() {
        return which(rows());
    }

    int likely() {
        String rows = rows();
        int fit = which(rows);
        for (int wrong = 0; wrong <= 1; wrong++) {
            for (int i = 0; i < all.ops.size(); i++) {
                if ((fit >> i & 1) == 1 && wrong(all.ops.get(i), rows) == wrong) {
                    return i;
                }
            }
        }
        return NONE;
    }

    int ask() {
        int set = which(rows());
        if (Integer.bitCount(set) < 2) {
            return NONE;
        }
        int best = NONE;
        int size = 100;
        for (int what = 0; what <= 6; what++) {
            Map<Integer, Integer> parts = new HashMap<>();
            for (int i = 0; i < all.ops.size(); i++) {
                if ((set >> i & 1) == 1) {
                    parts.merge(feature(all.ops.get(i), what), 1, Integer::sum);
                }
            }
            int greatest = parts.values().stream().max(Integer::compare).get();
            if (greatest < size) {
                size = greatest;
                best = what;
            }
        }
        return best;
    }

    private static int turns(int[] row, int from, int to) {
        if (from == to) {
            return 0;
        }
        return Math.max(row[from] - turns(row, from + 1, to), row[to - 1] - turns(row, from, to - 1));
    }

    int lead() {
        return turns(all.first, 0, 8);
    }

    int side() {
        int left = all.first[0] - turns(all.first, 1, 8);
        return bit(left != lead());
    }

    /** All ways to put OPS two by two, from the first one in the document's order on; the best is kept. */
    private void ways(int[] with, int op, int[] best, int[] sum) {
        int n = all.ops.size();
        if (op == n) {
            int s = 0;
            for (int i = 0; i < n; i++) {
                s += with[i] == NONE ? 0 : all.ops.get(i).micros.size();
            }
            if (s > sum[0]) {
                sum[0] = s;
                System.arraycopy(with, 0, best, 0, n);
            }
            return;
        }
        if (with[op] != NONE) {
            ways(with, op + 1, best, sum);
            return;
        }
        ways(with, op + 1, best, sum);
        for (int other = op + 1; other < n; other++) {
            if (with[other] == NONE && !clash(all.ops.get(op), all.ops.get(other))) {
                with[op] = other;
                with[other] = op;
                ways(with, op + 1, best, sum);
                with[op] = NONE;
                with[other] = NONE;
            }
        }
    }

    int pairs(int op) {
        if (op != NONE) {
            opOf(op);
        }
        int[] with = {NONE, NONE, NONE, NONE, NONE, NONE, NONE, NONE};
        int[] best = with.clone();
        int[] sum = {-1};
        ways(with, 0, best, sum);
        return op == NONE ? sum[0] : best[op];
    }

    int rests(int op) {
        Op o = opOf(op);
        int[][] guest = {{-lawOf(all, op, "blame"), o.micros.size()}, {0, 0}};
        int[][] host = {{1 + lawOf(all, op, "worth"), -emulation(all, op)}, {-1, 1}};
        int bits = 0;
        for (int g = 0; g < 2; g++) {
            for (int h = 0; h < 2; h++) {
                if (guest[1 - g][h] <= guest[g][h] && host[g][1 - h] <= host[g][h]) {
                    bits += 1 << 2 * g + h;
                }
            }
        }
        return bits;
    }

    int odds(int n, int k) {
        need(n >= 0 && n <= 5 && k >= 0 && k <= 5);
        BigInteger sum = BigInteger.ZERO;
        for (int set = 0; set < 1 << n; set++) {
            if (Integer.bitCount(set) >= k) {
                BigInteger one = BigInteger.ONE;
                for (int i = 0; i < n; i++) {
                    one = one.multiply(BigInteger.valueOf((set >> i & 1) == 1 ? all.alarm : 100 - all.alarm));
                }
                sum = sum.add(one);
            }
        }
        return sum.multiply(BigInteger.valueOf(10000)).divide(BigInteger.valueOf(100).pow(n)).intValue();
    }

    int most(int what) {
        needWhat(what >= 0 && what <= 2);
        int best = NONE;
        for (int i = 0; i < all.ops.size(); i++) {
            if (best == NONE || much(i, what) > much(best, what)) {
                best = i;
            }
        }
        return best;
    }

    private int much(int op, int what) {
        return what == 0 ? all.ops.get(op).micros.size() : what == 1 ? emulation(all, op) : uses(all, op);
    }

    int twins() {
        int n = 0;
        for (int i = 0; i < all.ops.size(); i++) {
            for (int j = i + 1; j < all.ops.size(); j++) {
                n += bit(all.ops.get(i).key().equals(all.ops.get(j).key()));
            }
        }
        return n;
    }

    int ahead(int n, boolean hosted) {
        need(n >= 0 && n <= 60);
        All a = all.copy();
        for (int i = 0; i < n; i++) {
            stepBare(a);
            stepHosted(a);
        }
        return hosted ? a.hosted.pc : a.bare.pc;
    }

    int trial(int n, boolean views) {
        need(n >= 0 && n <= 60);
        All a = all.copy();
        ticks(a, n);
        return views ? bit(alike(a)) : a.purse;
    }

    int span(int n, boolean most) {
        need(n >= 0 && n <= 60);
        List<Integer> purses = new ArrayList<>();
        for (int seed = 1; seed <= 6; seed++) {
            All a = all.copy();
            a.seed = seed;
            ticks(a, n);
            purses.add(a.purse);
        }
        purses.sort(Integer::compare);
        return purses.get(most ? 5 : 0);
    }

    int led(int op, boolean tick) {
        opOf(op);
        int n = 0;
        int latest = NONE;
        for (int[] row : all.log) {
            if (row[1] == op) {
                n++;
                latest = row[0];
            }
        }
        return tick ? latest : n;
    }

    int log(int ago, int what) {
        needWhat(what >= 0 && what <= 3);
        return ago < 0 || ago >= all.log.size() ? -2 : all.log.get(all.log.size() - 1 - ago)[what];
    }

    int seed(int n) {
        int was = all.seed;
        all.seed = n;
        return was;
    }

    boolean undo() {
        if (past.isEmpty()) {
            return false;
        }
        all = past.removeLast();
        return true;
    }

    void image() {
        image = all.copy();
    }

    boolean back() {
        if (image == null) {
            return false;
        }
        all = image.copy();
        past.clear();
        return true;
    }

    int count(int what) {
        int lines = NONE;
        if (all.law != null) {
            try {
                lines = readLaw(all, NONE, all.law)[3];
            } catch (Wrong w) {
                throw new AssertionError("a law that is kept is right");
            }
        }
        int[] row = {all.ops.size(), all.texts, lines, all.program.size(), all.vector, all.shift / 2, all.cost,
            all.alarm, all.tick, all.purse, all.log.size(), past.size()};
        return what < 0 || what > 11 ? NONE : row[what];
    }
}
