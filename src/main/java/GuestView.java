import java.util.Arrays;
import java.util.NoSuchElementException;

/** Can a machine host itself: a guest on the bare machine, and the same guest under a monitor. */
public final class GuestView {
    public static final int NONE = -1;

    private static final int MOST_OPS = 8;
    private static final int MOST_MICROS = 3;
    private static final int MOST_PROGRAM = 10;
    private static final int CELLS = 8;
    private static final int MOST_BYTES = 400;
    private static final int MOST_TEXTS = 12;
    private static final int MOST_BENCH_LINES = 14;
    private static final int MOST_LAW_LINES = 12;
    private static final int DEEPEST = 6;
    private static final int STATES = 512;
    private static final int MOST_STEPS = 60;
    private static final int LOG_ROWS = 60;
    private static final int LOG_WIDTH = 4;
    private static final int MOST_ACTS = 12;
    private static final int HIGHEST = 9999;
    private static final int FARTHEST_PC = 12;
    private static final int MOST_TOLD = 40;
    private static final int MOST_WRONG = 1;
    private static final int NO_ROW = -2;
    private static final int UNKNOWN = -2;

    private static final int ADD = 0;
    private static final int LOAD = 1;
    private static final int SAVE = 2;
    private static final int RISE = 3;
    private static final int DROP = 4;
    private static final int MOVE = 5;
    private static final int WHERE = 6;
    private static final int WHO = 7;
    private static final int TIME = 8;
    private static final int SKIP = 9;
    private static final int QUIET = 10;
    private static final String MICRO_WORDS = "add load save rise drop move where who time skip quiet";

    private static final int CONTROL = 0;
    private static final int MODAL = 1;
    private static final int LOCAL = 2;
    private static final int TIMED = 3;
    private static final int TRAITS = 4;

    private static final int HALTED = -1;
    private static final int REFLECTED = 0;
    private static final int EMULATED = 1;
    private static final int ESCAPED = 2;
    private static final int PARTED = 3;
    private static final int ALARMED = 4;
    private static final int PASSED = 5;

    private static final String BENCH_WORDS = "op program cells vector shift cost alarm purse";
    private static final String LAW_WORDS = "cost blame worth";
    private static final int COSTS = 0;
    private static final int BLAMES = 1;
    private static final int WORTHS = 2;

    // What THE LAW may name of an OP, in the order of the row that describes it.
    private static final String PART_WORDS = "op micros control modal local timed uses";
    private static final String FLAG_WORDS = "guarded patched sensitive";
    private static final int FLAGS_FROM = 7;
    private static final int SUBJECT = 10;

    // THE LAW's conditions are kept as codes for a stack; a code from NUMBERS on is a number.
    private static final int CODE_PLUS = 20;
    private static final int CODE_LESS = 21;
    private static final int CODE_MORE = 22;
    private static final int CODE_AND = 23;
    private static final int CODE_OR = 24;
    private static final int CODE_NOT = 25;
    private static final int NUMBERS = 1000;

    private static final int END = 0;
    private static final int NUMBER = 1;
    private static final int WORD = 2;
    private static final int SIGN = 3;

    /** The OPS: their MICROS, and which of them are GUARDED or PATCHED. */
    private static final class Ops {
        int total;
        final int[] sizes = new int[MOST_OPS];
        final int[] kinds = new int[MOST_OPS * MOST_MICROS];
        final int[] numbers = new int[MOST_OPS * MOST_MICROS];
        final int[] guarded = new int[MOST_OPS];
        final int[] patched = new int[MOST_OPS];

        void copyFrom(Ops other) {
            total = other.total;
            System.arraycopy(other.sizes, 0, sizes, 0, MOST_OPS);
            System.arraycopy(other.kinds, 0, kinds, 0, MOST_OPS * MOST_MICROS);
            System.arraycopy(other.numbers, 0, numbers, 0, MOST_OPS * MOST_MICROS);
            System.arraycopy(other.guarded, 0, guarded, 0, MOST_OPS);
            System.arraycopy(other.patched, 0, patched, 0, MOST_OPS);
        }

        boolean has(int op) {
            return op >= 0 && op < total && op < MOST_OPS;
        }

        int size(int op) {
            return has(op) ? sizes[op] : 0;
        }

        int kindAt(int op, int k) {
            return has(op) && k >= 0 && k < sizes[op] && k < MOST_MICROS ? kinds[op * MOST_MICROS + k] : NONE;
        }

        int numberAt(int op, int k) {
            return has(op) && k >= 0 && k < sizes[op] && k < MOST_MICROS ? numbers[op * MOST_MICROS + k] : NONE;
        }

        boolean isGuarded(int op) {
            return has(op) && guarded[op] == 1;
        }

        boolean isPatched(int op) {
            return has(op) && patched[op] == 1;
        }

        boolean trapsIn(int op, int mode) {
            return mode == 0 && isGuarded(op);
        }

        void addOp(boolean guard) {
            if (total >= 0 && total < MOST_OPS) {
                sizes[total] = 0;
                guarded[total] = guard ? 1 : 0;
                patched[total] = 0;
                total++;
            }
        }

        void addMicro(int kind, int n) {
            int op = total - 1;
            if (has(op) && sizes[op] >= 0 && sizes[op] < MOST_MICROS) {
                kinds[op * MOST_MICROS + sizes[op]] = kind;
                numbers[op * MOST_MICROS + sizes[op]] = n;
                sizes[op]++;
            }
        }

        boolean hasKind(int op, int kind) {
            int size = size(op);
            for (int k = 0; k < size; k++) {
                if (kindAt(op, k) == kind) {
                    return true;
                }
            }
            return false;
        }

        /** The N of all MICROS of one KIND, as bits. */
        int numbersOf(int op, int kind) {
            int bits = 0;
            int size = size(op);
            for (int k = 0; k < size; k++) {
                if (kindAt(op, k) == kind) {
                    bits |= 1 << numberAt(op, k);
                }
            }
            return bits;
        }

        boolean collide(int op, int other) {
            int saves = numbersOf(op, SAVE);
            int otherSaves = numbersOf(other, SAVE);
            return (saves & (otherSaves | numbersOf(other, LOAD))) != 0
                || (otherSaves & numbersOf(op, LOAD)) != 0;
        }

        boolean areTwins(int op, int other) {
            int size = size(op);
            if (size != size(other) || isGuarded(op) != isGuarded(other)) {
                return false;
            }
            for (int k = 0; k < size; k++) {
                if (kindAt(op, k) != kindAt(other, k) || numberAt(op, k) != numberAt(other, k)) {
                    return false;
                }
            }
            return true;
        }
    }

    /** What OPS work on. Of the HOSTED guest MODE and BASE are the VIRTUAL ones, the CELLS its own. */
    private static final class Core {
        int pc;
        int r;
        int mode = 1;
        int base;
        int clock;
        boolean skips;
        final int[] cells = new int[CELLS];

        void copyFrom(Core other) {
            pc = other.pc;
            r = other.r;
            mode = other.mode;
            base = other.base;
            clock = other.clock;
            skips = other.skips;
            System.arraycopy(other.cells, 0, cells, 0, CELLS);
        }

        void start(int[] first) {
            pc = 0;
            r = 0;
            mode = 1;
            base = 0;
            clock = 0;
            skips = false;
            for (int k = 0; k < CELLS && k < first.length; k++) {
                cells[k] = first[k];
            }
        }

        void toState(int state) {
            r = state & 3;
            mode = (state >> 2) & 1;
            base = 2 * ((state >> 3) & 3);
            clock = 0;
            skips = false;
            int slope = (state >> 5) & 3;
            int rise = (state >> 7) & 3;
            for (int k = 0; k < CELLS; k++) {
                cells[k] = (slope * k + rise) & 3;
            }
        }

        /** The same state seen from its BASE: that is 0, and the CELLS are turned by it. */
        void toStateFromBase(int state) {
            toState(state);
            int slope = (state >> 5) & 3;
            int rise = (state >> 7) & 3;
            for (int k = 0; k < CELLS; k++) {
                cells[k] = (slope * ((k + base) & 7) + rise) & 3;
            }
            base = 0;
        }

        /** The offset tells where the CELL that is meant lies among the own CELLS. */
        void perform(Ops ops, int op, int offset) {
            skips = false;
            int size = ops.size(op);
            for (int k = 0; k < size; k++) {
                int kind = ops.kindAt(op, k);
                if (kind == QUIET && mode == 0) {
                    return;
                }
                int n = ops.numberAt(op, k);
                int place = (n + base + offset) & 7;
                switch (kind) {
                    case ADD: r = (r + n) & 3; break;
                    case LOAD: r = cells[place]; break;
                    case SAVE: cells[place] = r; break;
                    case RISE: mode = 1; break;
                    case DROP: mode = 0; break;
                    case MOVE: base = 2 * r; break;
                    case WHERE: r = base / 2; break;
                    case WHO: r = mode; break;
                    case TIME: r = clock & 3; break;
                    case SKIP: skips = skips || r == (n & 3); break;
                    default: break;
                }
            }
        }

        void goOn() {
            pc = Math.min(FARTHEST_PC, pc + (skips ? 2 : 1));
        }

        void interrupt(int vector) {
            mode = 1;
            pc = vector;
        }

        void spend(int time) {
            clock = (clock + time) & 7;
        }

        boolean hasView(Core other) {
            return pc == other.pc && mode == other.mode && base == other.base && r == other.r
                && hasCells(other, 0);
        }

        /** Whether CELL (k and turn) is the other one's CELL k, for all. */
        boolean hasCells(Core other, int turn) {
            for (int k = 0; k < CELLS; k++) {
                if (cells[(k + turn) & 7] != other.cells[k]) {
                    return false;
                }
            }
            return true;
        }

        boolean answersLike(Core other, int turn) {
            return r == other.r && skips == other.skips && hasCells(other, turn);
        }
    }

    /** WITNESSES, found by trying an OP in all STATES, and kept. */
    private static final class Traits {
        // By whether it is GUARDED, then OP, then what: a guard that comes and goes costs no search.
        final int[] known = new int[2 * MOST_OPS * TRAITS];
        // By OP and what, with the guards as they were when it was learnt.
        final int[] states = new int[MOST_OPS * TRAITS];
        final Core one = new Core();
        final Core two = new Core();

        Traits() {
            Arrays.fill(known, UNKNOWN);
            Arrays.fill(states, NONE);
        }

        void forget() {
            Arrays.fill(known, UNKNOWN);
        }

        void learn(Ops ops) {
            for (int op = 0; op < ops.total && op < MOST_OPS; op++) {
                int from = (ops.isGuarded(op) ? MOST_OPS + op : op) * TRAITS;
                for (int what = 0; what < TRAITS; what++) {
                    if (known[from + what] == UNKNOWN) {
                        known[from + what] = search(ops, op, what);
                    }
                    states[op * TRAITS + what] = known[from + what];
                }
            }
        }

        /** The least STATE, as learnt. */
        int stateOf(int op, int what) {
            boolean is = op >= 0 && op < MOST_OPS && what >= 0 && what < TRAITS;
            return is ? states[op * TRAITS + what] : NONE;
        }

        boolean shows(int op, int what) {
            return stateOf(op, what) != NONE;
        }

        boolean isSensitive(int op) {
            return shows(op, CONTROL) || shows(op, MODAL) || shows(op, LOCAL);
        }

        private int search(Ops ops, int op, int what) {
            if (!mayShow(ops, op, what)) {
                return NONE;
            }
            for (int state = 0; state < STATES; state++) {
                if (tells(ops, op, state, what)) {
                    return state;
                }
            }
            return NONE;
        }

        // Without one of these KINDS no STATE can show it, so that none need be tried.
        private boolean mayShow(Ops ops, int op, int what) {
            switch (what) {
                case CONTROL: return ops.hasKind(op, RISE) || ops.hasKind(op, DROP) || ops.hasKind(op, MOVE);
                case MODAL: return ops.hasKind(op, WHO) || ops.hasKind(op, QUIET);
                case LOCAL: return ops.hasKind(op, WHERE) || ops.hasKind(op, MOVE);
                default: return ops.hasKind(op, TIME);
            }
        }

        private boolean tells(Ops ops, int op, int state, int what) {
            one.toState(state);
            int mode = one.mode;
            int base = one.base;
            if (ops.trapsIn(op, mode) || (what == MODAL && mode != 0)) {
                return false;
            }
            one.perform(ops, op, 0);
            if (what == CONTROL) {
                return one.mode != mode || one.base != base;
            }
            int clocks = what == TIMED ? 7 : 1;
            for (int clock = 1; clock <= clocks; clock++) {
                makeOther(state, what, clock);
                two.perform(ops, op, 0);
                if (!one.answersLike(two, what == LOCAL ? base : 0)) {
                    return true;
                }
            }
            return false;
        }

        private void makeOther(int state, int what, int clock) {
            if (what == LOCAL) {
                two.toStateFromBase(state);
                return;
            }
            two.toState(state);
            if (what == MODAL) {
                two.mode = 1;
            } else {
                two.clock = clock;
            }
        }
    }

    /** THE LAW as read: LINES, each with codes of its condition (none: it holds). */
    private static final class Rules {
        boolean told;
        int lines;
        int codeSize;
        final int[] sorts = new int[MOST_LAW_LINES];
        final int[] amounts = new int[MOST_LAW_LINES];
        final int[] starts = new int[MOST_LAW_LINES];
        final int[] ends = new int[MOST_LAW_LINES];
        final int[] codes = new int[MOST_BYTES];

        void copyFrom(Rules other) {
            told = other.told;
            lines = other.lines;
            codeSize = other.codeSize;
            System.arraycopy(other.sorts, 0, sorts, 0, MOST_LAW_LINES);
            System.arraycopy(other.amounts, 0, amounts, 0, MOST_LAW_LINES);
            System.arraycopy(other.starts, 0, starts, 0, MOST_LAW_LINES);
            System.arraycopy(other.ends, 0, ends, 0, MOST_LAW_LINES);
            System.arraycopy(other.codes, 0, codes, 0, MOST_BYTES);
        }

        void clear() {
            told = true;
            lines = 0;
            codeSize = 0;
        }

        void addLine(int sort, int amount) {
            if (lines >= 0 && lines < MOST_LAW_LINES) {
                sorts[lines] = sort;
                amounts[lines] = amount;
                starts[lines] = codeSize;
                ends[lines] = codeSize;
                lines++;
            }
        }

        void addCode(int code) {
            int line = lines - 1;
            if (line >= 0 && line < MOST_LAW_LINES && codeSize >= 0 && codeSize < MOST_BYTES) {
                codes[codeSize] = code;
                codeSize++;
                ends[line] = codeSize;
            }
        }

        int sum(int sort, int[] subject, int[] stack) {
            int sum = 0;
            for (int line = 0; line < lines && line < MOST_LAW_LINES; line++) {
                if (sorts[line] == sort && holds(line, subject, stack)) {
                    sum += amounts[line];
                }
            }
            return sum;
        }

        private boolean holds(int line, int[] subject, int[] stack) {
            int top = 0;
            for (int i = Math.max(0, starts[line]); i < ends[line] && i < MOST_BYTES; i++) {
                int code = codes[i];
                if (code >= NUMBERS || (code >= 0 && code < subject.length)) {
                    if (top < stack.length) {
                        stack[top] = code >= NUMBERS ? code - NUMBERS : subject[code];
                        top++;
                    }
                } else if (code == CODE_NOT) {
                    if (top > 0) {
                        stack[top - 1] = 1 - stack[top - 1];
                    }
                } else if (top > 1) {
                    top--;
                    stack[top - 1] = joined(code, stack[top - 1], stack[top]);
                }
            }
            return top < 1 || stack[0] != 0;
        }

        private int joined(int code, int left, int right) {
            switch (code) {
                case CODE_PLUS: return left + right;
                case CODE_LESS: return left < right ? 1 : 0;
                case CODE_MORE: return left > right ? 1 : 0;
                case CODE_AND: return left & right;
                default: return left | right;
            }
        }
    }

    /** What THE LAW comes to for an OP, kept by how often it is used until guards, patches or texts change. */
    private static final class Ledger {
        final Rules rules = new Rules();
        final Traits traits = new Traits();
        final int[] sums = new int[3 * MOST_OPS * (MOST_PROGRAM + 1)];
        final int[] subject = new int[SUBJECT];
        // Six levels of ( with a pending "or" and "and" each, and one comparison.
        final int[] stack = new int[32];

        Ledger() {
            Arrays.fill(sums, UNKNOWN);
        }

        void forgetSums() {
            Arrays.fill(sums, UNKNOWN);
        }

        int sum(World world, int op, int sort) {
            int uses = world.usesOf(op);
            if (!world.ops.has(op) || sort < 0 || sort > WORTHS || uses < 0 || uses > MOST_PROGRAM) {
                return 0;
            }
            int at = (sort * MOST_OPS + op) * (MOST_PROGRAM + 1) + uses;
            if (sums[at] == UNKNOWN) {
                describe(world.ops, op, uses);
                sums[at] = rules.sum(sort, subject, stack);
            }
            return sums[at];
        }

        private void describe(Ops ops, int op, int uses) {
            subject[0] = op;
            subject[1] = ops.size(op);
            subject[2] = traits.shows(op, CONTROL) ? 1 : 0;
            subject[3] = traits.shows(op, MODAL) ? 1 : 0;
            subject[4] = traits.shows(op, LOCAL) ? 1 : 0;
            subject[5] = traits.shows(op, TIMED) ? 1 : 0;
            subject[6] = uses;
            subject[FLAGS_FROM] = ops.isGuarded(op) ? 1 : 0;
            subject[FLAGS_FROM + 1] = ops.isPatched(op) ? 1 : 0;
            subject[FLAGS_FROM + 2] = subject[2] | subject[3] | subject[4];
        }
    }

    /** THE LOG: a ring of rows. */
    private static final class Log {
        int rows;
        int next;
        final int[] data = new int[LOG_ROWS * LOG_WIDTH];

        void copyFrom(Log other) {
            rows = other.rows;
            next = other.next;
            System.arraycopy(other.data, 0, data, 0, LOG_ROWS * LOG_WIDTH);
        }

        void add(int tick, int op, int kind, int pc) {
            if (next < 0 || next >= LOG_ROWS) {
                return;
            }
            int at = next * LOG_WIDTH;
            data[at] = tick;
            data[at + 1] = op;
            data[at + 2] = kind;
            data[at + 3] = pc;
            next = (next + 1) % LOG_ROWS;
            rows = Math.min(LOG_ROWS, rows + 1);
        }

        int get(int ago, int what) {
            if (ago < 0 || ago >= rows || ago >= LOG_ROWS || what < 0 || what >= LOG_WIDTH) {
                return NO_ROW;
            }
            return data[Math.floorMod(next - 1 - ago, LOG_ROWS) * LOG_WIDTH + what];
        }
    }

    /** All that an act may change, with the OPS. */
    private static final class World {
        final Ops ops = new Ops();
        final int[] program = new int[MOST_PROGRAM];
        int length;
        final int[] firstCells = new int[CELLS];
        int vector;
        int shift = 2;
        int cost = 1;
        int alarm;
        int tick;
        int purse;
        int seed = 1;
        int texts;
        final Core bare = new Core();
        final Core hosted = new Core();
        final Log rows = new Log();

        void copyFrom(World other) {
            ops.copyFrom(other.ops);
            System.arraycopy(other.program, 0, program, 0, MOST_PROGRAM);
            length = other.length;
            System.arraycopy(other.firstCells, 0, firstCells, 0, CELLS);
            vector = other.vector;
            shift = other.shift;
            cost = other.cost;
            alarm = other.alarm;
            tick = other.tick;
            purse = other.purse;
            seed = other.seed;
            texts = other.texts;
            bare.copyFrom(other.bare);
            hosted.copyFrom(other.hosted);
            rows.copyFrom(other.rows);
        }

        void start() {
            bare.start(firstCells);
            hosted.start(firstCells);
        }

        int opAt(int pc) {
            return pc >= 0 && pc < length && pc < MOST_PROGRAM ? program[pc] : NONE;
        }

        int usesOf(int op) {
            int uses = 0;
            for (int k = 0; k < length && k < MOST_PROGRAM; k++) {
                if (program[k] == op) {
                    uses++;
                }
            }
            return uses;
        }

        boolean viewsAlike() {
            return bare.hasView(hosted);
        }

        boolean bothHalted() {
            return opAt(bare.pc) == NONE && opAt(hosted.pc) == NONE;
        }

        void stepBare() {
            int op = opAt(bare.pc);
            if (op == NONE) {
                return;
            }
            if (ops.trapsIn(op, bare.mode)) {
                bare.interrupt(vector);
            } else {
                bare.perform(ops, op, 0);
                bare.goOn();
            }
            bare.spend(1);
        }

        /** Answers how the monitor met the OP. */
        int stepHosted(Ledger ledger) {
            int op = opAt(hosted.pc);
            if (op == NONE) {
                return HALTED;
            }
            int came;
            if (ops.trapsIn(op, hosted.mode)) {
                hosted.interrupt(vector);
                came = REFLECTED;
            } else if (ops.isGuarded(op) || ops.isPatched(op)) {
                hosted.perform(ops, op, 0);
                hosted.goOn();
                came = EMULATED;
            } else {
                came = letThrough(op);
            }
            hosted.spend(isTrap(came) ? 1 + cost + ledger.sum(this, op, COSTS) : 1);
            return came;
        }

        // The host's CELL (K and SHIFT) is the own CELL K, so the own one lies SHIFT lower.
        private int letThrough(int op) {
            int mode = hosted.mode;
            hosted.mode = 0;
            hosted.base = (hosted.base + shift) & 7;
            hosted.perform(ops, op, -shift);
            hosted.goOn();
            boolean escapes = hosted.mode == 1;
            hosted.mode = mode;
            hosted.base = (hosted.base - shift) & 7;
            return escapes ? ESCAPED : PASSED;
        }

        boolean isTrap(int came) {
            return came == REFLECTED || came == EMULATED;
        }

        int draw() {
            seed = 1103515245 * seed + 12345;
            return (seed >>> 16) & 0x7fff;
        }

        /** One TICK more: 1 if the OP of the HOSTED guest was REFLECTED or EMULATED. */
        int tickOnce(Ledger ledger) {
            boolean alarmed = draw() % 100 < alarm;
            boolean alikeAhead = viewsAlike();
            int pc = hosted.pc;
            int op = alarmed ? NONE : opAt(pc);
            int came;
            if (alarmed) {
                bare.interrupt(vector);
                hosted.interrupt(vector);
                came = ALARMED;
            } else {
                stepBare();
                came = stepHosted(ledger);
            }
            if (came != HALTED && came != PASSED) {
                rows.add(tick, op, came, pc);
            }
            if (alikeAhead && !viewsAlike()) {
                rows.add(tick, op, PARTED, pc);
            }
            tick = Math.min(HIGHEST, tick + 1);
            if (!isTrap(came)) {
                return 0;
            }
            purse = Math.min(HIGHEST, purse + 1 + ledger.sum(this, op, WORTHS));
            return 1;
        }

        int tickMany(int n, Ledger ledger) {
            int trapped = 0;
            for (int i = 0; i < n && i < MOST_STEPS; i++) {
                trapped += tickOnce(ledger);
            }
            return trapped;
        }

        /** From BOOT on, the number of the first STEP behind which VIEWS are unlike. */
        int firstLeak(Ledger ledger) {
            start();
            for (int n = 1; n <= MOST_STEPS && !bothHalted(); n++) {
                stepBare();
                stepHosted(ledger);
                if (!viewsAlike()) {
                    return n;
                }
            }
            return NONE;
        }
    }

    /** The worlds ahead of the latest acts: a ring. */
    private static final class History {
        final World[] worlds = new World[MOST_ACTS];
        int acts;
        int next;

        History() {
            for (int i = 0; i < MOST_ACTS; i++) {
                worlds[i] = new World();
            }
        }

        void remember(World world) {
            if (next < 0 || next >= MOST_ACTS) {
                return;
            }
            worlds[next].copyFrom(world);
            next = (next + 1) % MOST_ACTS;
            acts = Math.min(MOST_ACTS, acts + 1);
        }

        boolean takeBack(World world) {
            if (acts <= 0) {
                return false;
            }
            acts--;
            next = Math.floorMod(next - 1, MOST_ACTS);
            world.copyFrom(worlds[next]);
            return true;
        }
    }

    /** A text, read thing by thing: words, numbers, signs. */
    private static final class Reader {
        final int[] text = new int[MOST_BYTES];
        int size;
        int at;
        int wrong = NONE;
        int begin;
        int kind;
        int value;

        void load(int[] bytes, int count) {
            size = Math.max(0, Math.min(count, Math.min(bytes.length, MOST_BYTES)));
            System.arraycopy(bytes, 0, text, 0, size);
            at = 0;
            wrong = NONE;
        }

        int byteAt(int place) {
            return place >= 0 && place < size && place < MOST_BYTES ? text[place] : NONE;
        }

        void step() {
            while (at < size && byteAt(at) == ' ') {
                at++;
            }
            begin = at;
            int first = byteAt(at);
            value = first;
            if (first == NONE) {
                kind = END;
            } else if (isDigit(first)) {
                stepNumber();
            } else if (isLetter(first)) {
                kind = WORD;
                while (at < size && isLetter(byteAt(at))) {
                    at++;
                }
            } else {
                kind = SIGN;
                at++;
            }
        }

        // A number of more than three digits gets a value that is out of all bounds.
        private void stepNumber() {
            kind = NUMBER;
            value = 0;
            while (at < size && isDigit(byteAt(at))) {
                value = at - begin < 3 ? 10 * value + byteAt(at) - '0' : NONE;
                at++;
            }
        }

        private boolean isDigit(int sign) {
            return sign >= '0' && sign <= '9';
        }

        private boolean isLetter(int sign) {
            return sign >= 'a' && sign <= 'z';
        }

        boolean isSign(char sign) {
            return kind == SIGN && value == sign;
        }

        boolean isNumberTo(int most) {
            return kind == NUMBER && value >= 0 && value <= most;
        }

        boolean isWord(String word) {
            return wordAmong(word) == 0;
        }

        /** Which of some words, with blanks between them, stands here. */
        int wordAmong(String words) {
            if (kind != WORD) {
                return NONE;
            }
            int index = 0;
            int from = 0;
            for (int i = 0; i <= words.length(); i++) {
                if (i == words.length() || words.charAt(i) == ' ') {
                    if (standsHere(words, from, i)) {
                        return index;
                    }
                    index++;
                    from = i + 1;
                }
            }
            return NONE;
        }

        private boolean standsHere(String words, int from, int to) {
            if (to - from != at - begin) {
                return false;
            }
            int turn = begin - from;
            for (int i = from; i < to && i < words.length(); i++) {
                if (words.charAt(i) != byteAt(i + turn)) {
                    return false;
                }
            }
            return true;
        }

        /** What stands here cannot: false, for the one that asked. */
        boolean refuse() {
            wrong = begin;
            return false;
        }

        /** Ends one LINE: true if there is no more text, or another LINE may begin. */
        boolean endLine() {
            if (kind == END) {
                return true;
            }
            if (!isSign(';')) {
                return refuse();
            }
            step();
            return kind == END ? refuse() : true;
        }
    }

    /** Reads a text of THE BENCH into a world. */
    private static final class BenchText {
        final Reader reader;
        final World world;

        BenchText(Reader reader, World world) {
            this.reader = reader;
            this.world = world;
        }

        boolean read() {
            reader.step();
            for (int line = 0; line < MOST_BENCH_LINES && reader.kind != END; line++) {
                if (!readLine() || !reader.endLine()) {
                    return false;
                }
            }
            return reader.kind == END || reader.refuse();
        }

        private boolean readLine() {
            int word = reader.wordAmong(BENCH_WORDS);
            if (word == NONE || (word == 0 && world.ops.total >= MOST_OPS)) {
                return reader.refuse();
            }
            reader.step();
            switch (word) {
                case 0: return readOp();
                case 1: return readProgram();
                case 2: return readCells();
                default: return readSetting(word);
            }
        }

        private boolean readOp() {
            boolean guard = reader.isWord("guarded");
            if (guard) {
                reader.step();
            }
            world.ops.addOp(guard);
            int micros = 0;
            while (micros < MOST_MICROS && (micros == 0 || reader.kind == WORD)) {
                if (!readMicro()) {
                    return false;
                }
                micros++;
            }
            return true;
        }

        private boolean readMicro() {
            int kind = reader.wordAmong(MICRO_WORDS);
            if (kind == NONE) {
                return reader.refuse();
            }
            reader.step();
            int n = 0;
            if (kind == ADD || kind == LOAD || kind == SAVE || kind == SKIP) {
                if (!reader.isNumberTo(7)) {
                    return reader.refuse();
                }
                n = reader.value;
                reader.step();
            }
            world.ops.addMicro(kind, n);
            return true;
        }

        private boolean readProgram() {
            world.length = 0;
            while (world.length < MOST_PROGRAM && reader.kind == NUMBER) {
                if (!reader.isNumberTo(world.ops.total - 1)) {
                    return reader.refuse();
                }
                world.program[world.length] = reader.value;
                world.length++;
                reader.step();
            }
            return true;
        }

        private boolean readCells() {
            int cell = 0;
            while (cell < CELLS && (cell == 0 || reader.kind == NUMBER)) {
                if (!reader.isNumberTo(3)) {
                    return reader.refuse();
                }
                world.firstCells[cell] = reader.value;
                cell++;
                reader.step();
            }
            return true;
        }

        private boolean readSetting(int word) {
            if (!reader.isNumberTo(highest(word))) {
                return reader.refuse();
            }
            int n = reader.value;
            switch (word) {
                case 3: world.vector = n; break;
                case 4: world.shift = 2 * n; break;
                case 5: world.cost = n; break;
                case 6: world.alarm = n; break;
                default: world.purse = n; break;
            }
            reader.step();
            return true;
        }

        private int highest(int word) {
            switch (word) {
                case 3: return 9;
                case 4: return 3;
                case 5: return 7;
                case 6: return 100;
                default: return 999;
            }
        }
    }

    /** Reads a text of THE LAW into rules. */
    private static final class LawText {
        final Reader reader;
        final Rules rules;

        LawText(Reader reader, Rules rules) {
            this.reader = reader;
            this.rules = rules;
        }

        boolean read() {
            rules.clear();
            reader.step();
            for (int line = 0; line < MOST_LAW_LINES && reader.kind != END; line++) {
                if (!readLine() || !reader.endLine()) {
                    return false;
                }
            }
            return reader.kind == END || reader.refuse();
        }

        private boolean readLine() {
            int sort = reader.wordAmong(LAW_WORDS);
            if (sort == NONE) {
                return reader.refuse();
            }
            reader.step();
            if (!reader.isNumberTo(40)) {
                return reader.refuse();
            }
            rules.addLine(sort, reader.value);
            reader.step();
            if (!reader.isWord("if")) {
                return true;
            }
            reader.step();
            return readAny(0);
        }

        private boolean readAny(int deep) {
            if (!readAll(deep)) {
                return false;
            }
            for (int i = 0; i < MOST_BYTES && reader.isWord("or"); i++) {
                reader.step();
                if (!readAll(deep)) {
                    return false;
                }
                rules.addCode(CODE_OR);
            }
            return true;
        }

        private boolean readAll(int deep) {
            if (!readAtom(deep)) {
                return false;
            }
            for (int i = 0; i < MOST_BYTES && reader.isWord("and"); i++) {
                reader.step();
                if (!readAtom(deep)) {
                    return false;
                }
                rules.addCode(CODE_AND);
            }
            return true;
        }

        private boolean readAtom(int deep) {
            if (reader.isWord("not")) {
                return readNot(deep);
            }
            if (reader.isSign('(')) {
                return readGroup(deep);
            }
            int flag = reader.wordAmong(FLAG_WORDS);
            if (flag != NONE) {
                rules.addCode(FLAGS_FROM + flag);
                reader.step();
                return true;
            }
            return readComparison();
        }

        private boolean readNot(int deep) {
            if (deep >= DEEPEST) {
                return reader.refuse();
            }
            reader.step();
            if (!readAtom(deep + 1)) {
                return false;
            }
            rules.addCode(CODE_NOT);
            return true;
        }

        private boolean readGroup(int deep) {
            if (deep >= DEEPEST) {
                return reader.refuse();
            }
            reader.step();
            if (!readAny(deep + 1)) {
                return false;
            }
            if (!reader.isSign(')')) {
                return reader.refuse();
            }
            reader.step();
            return true;
        }

        /** SUM < SUM or SUM > SUM, PART by PART: the codes of the first one, of the second one, then the sign. */
        private boolean readComparison() {
            int sign = NONE;
            boolean adds = false;
            for (int parts = 0; parts < MOST_BYTES; parts++) {
                int part = reader.wordAmong(PART_WORDS);
                if (part == NONE && !reader.isNumberTo(999)) {
                    return reader.refuse();
                }
                rules.addCode(part == NONE ? NUMBERS + reader.value : part);
                if (adds) {
                    rules.addCode(CODE_PLUS);
                }
                reader.step();
                adds = reader.isSign('+');
                if (!adds && sign != NONE) {
                    rules.addCode(sign);
                    return true;
                }
                if (!adds) {
                    sign = comparingSign();
                    if (sign == NONE) {
                        return reader.refuse();
                    }
                }
                reader.step();
            }
            return reader.refuse();
        }

        private int comparingSign() {
            if (reader.isSign('<')) {
                return CODE_LESS;
            }
            return reader.isSign('>') ? CODE_MORE : NONE;
        }
    }

    private final int[] tape = new int[MOST_BYTES];
    private int taped;
    private int wrongByte = NONE;
    private final World now = new World();
    private final World spare = new World();
    private final World kept = new World();
    private boolean hasImage;
    private final Ledger ledger = new Ledger();
    private final Rules spareRules = new Rules();
    private final Rules keptRules = new Rules();
    private final History history = new History();
    private final Reader reader = new Reader();
    private final BenchText benchText = new BenchText(reader, spare);
    private final LawText lawText = new LawText(reader, spareRules);
    private final int[] table = new int[1 << MOST_OPS];

    public GuestView() {
    }

    public int feed(int a, int b, int c, int d, int e) {
        if (taped + 20 > MOST_BYTES) {
            return NONE;
        }
        feedNumber(a);
        feedNumber(b);
        feedNumber(c);
        feedNumber(d);
        feedNumber(e);
        return taped;
    }

    private void feedNumber(int n) {
        for (int bits = 24; bits >= 0 && taped >= 0 && taped < MOST_BYTES; bits -= 8) {
            tape[taped] = (n >>> bits) & 255;
            taped++;
        }
    }

    public boolean end(int n) {
        if (n < 0 || n > taped) {
            return false;
        }
        taped = n;
        return true;
    }

    private void useTape() {
        reader.load(tape, taped);
        taped = 0;
    }

    public int bench() throws IllegalArgumentException, UnsupportedOperationException {
        useTape();
        spare.copyFrom(now);
        boolean right = benchText.read();
        wrongByte = reader.wrong;
        if (!right) {
            throw new IllegalArgumentException("the text is wrong");
        }
        if (now.texts >= MOST_TEXTS) {
            throw new UnsupportedOperationException("there are twelve texts");
        }
        now.copyFrom(spare);
        now.texts++;
        now.start();
        forgetActs();
        return now.texts;
    }

    public int law() throws IllegalArgumentException {
        useTape();
        boolean right = lawText.read();
        wrongByte = reader.wrong;
        if (!right) {
            throw new IllegalArgumentException("the text is wrong");
        }
        ledger.rules.copyFrom(spareRules);
        forgetActs();
        return ledger.rules.lines;
    }

    private void forgetActs() {
        ledger.forgetSums();
        history.acts = 0;
    }

    public int fault() {
        return wrongByte;
    }

    private void needOp(int op) {
        if (!now.ops.has(op)) {
            throw new IndexOutOfBoundsException("there is no such OP");
        }
    }

    private void needNumber(int n, int least, int most) {
        if (n < least || n > most) {
            throw new IllegalArgumentException("the number is none");
        }
    }

    private void needWhat(int what, int most) {
        if (what < 0 || what > most) {
            throw new NoSuchElementException("there is no such what");
        }
    }

    private boolean shows(int op, int what) {
        return ledger.traits.shows(op, what);
    }

    private boolean isSensitive(int op) {
        return ledger.traits.isSensitive(op);
    }

    private int emulation(int op) {
        return now.cost + ledger.sum(now, op, COSTS);
    }

    private int blame(int op) {
        return ledger.sum(now, op, BLAMES);
    }

    private int worth(int op) {
        return 1 + ledger.sum(now, op, WORTHS);
    }

    private int share(int op) {
        return now.length <= 0 ? 0 : now.usesOf(op) * 100 / now.length;
    }

    public int op(int op, int what) throws IndexOutOfBoundsException, NoSuchElementException {
        needOp(op);
        needWhat(what, 12);
        ledger.traits.learn(now.ops);
        switch (what) {
            case 0: return now.ops.size(op);
            case 1: return now.ops.isGuarded(op) ? 1 : 0;
            case 2: return now.ops.isPatched(op) ? 1 : 0;
            case 3: return shows(op, CONTROL) ? 1 : 0;
            case 4: return shows(op, MODAL) ? 1 : 0;
            case 5: return shows(op, LOCAL) ? 1 : 0;
            case 6: return shows(op, TIMED) ? 1 : 0;
            case 7: return isSensitive(op) ? 1 : 0;
            case 8: return emulation(op);
            case 9: return blame(op);
            case 10: return worth(op);
            case 11: return now.usesOf(op);
            default: return share(op);
        }
    }

    public int micro(int op, int k, boolean n) throws IndexOutOfBoundsException {
        needOp(op);
        return n ? now.ops.numberAt(op, k) : now.ops.kindAt(op, k);
    }

    public int witness(int op, int what) throws IndexOutOfBoundsException, NoSuchElementException {
        needOp(op);
        needWhat(what, TRAITS - 1);
        ledger.traits.learn(now.ops);
        return ledger.traits.stateOf(op, what);
    }

    public int done(int op, int state, int what)
        throws IndexOutOfBoundsException, IllegalArgumentException, NoSuchElementException {
        needOp(op);
        needNumber(state, 0, STATES - 1);
        needWhat(what, 12);
        Core core = spare.bare;
        core.toState(state);
        boolean trapped = now.ops.trapsIn(op, core.mode);
        if (what == 0) {
            return trapped ? 1 : 0;
        }
        if (trapped) {
            return NONE;
        }
        core.perform(now.ops, op, 0);
        switch (what) {
            case 1: return core.r;
            case 2: return core.mode;
            case 3: return core.base;
            case 4: return core.skips ? 1 : 0;
            default: return core.cells[(what - 5) & 7];
        }
    }

    public int program(int k) {
        return now.opAt(k);
    }

    public int cell(int cell) throws IndexOutOfBoundsException {
        needCell(cell);
        return now.firstCells[cell & 7];
    }

    private void needCell(int cell) {
        if (cell < 0 || cell >= CELLS) {
            throw new IndexOutOfBoundsException("there is no such CELL");
        }
    }

    public int guest(boolean hosted, int what) throws NoSuchElementException {
        needWhat(what, 13);
        Core core = hosted ? now.hosted : now.bare;
        switch (what) {
            case 0: return core.pc;
            case 1: return core.r;
            case 2: return core.mode;
            case 3: return core.base;
            case 4: return core.clock;
            case 5: return now.opAt(core.pc) == NONE ? 1 : 0;
            default: return core.cells[(what - 6) & 7];
        }
    }

    public int ticks(int n) throws IllegalArgumentException {
        needNumber(n, 1, MOST_STEPS);
        ledger.traits.learn(now.ops);
        history.remember(now);
        return now.tickMany(n, ledger);
    }

    public void boot() {
        history.remember(now);
        now.start();
    }

    public boolean patch(int op, boolean is) throws IndexOutOfBoundsException {
        needOp(op);
        history.remember(now);
        return setFlag(now.ops.patched, op, is);
    }

    public boolean guard(int op, boolean is) throws IndexOutOfBoundsException {
        needOp(op);
        history.remember(now);
        return setFlag(now.ops.guarded, op, is);
    }

    private boolean setFlag(int[] flags, int op, boolean is) {
        boolean changes = false;
        if (op >= 0 && op < flags.length) {
            changes = (flags[op] == 1) != is;
            flags[op] = is ? 1 : 0;
        }
        ledger.forgetSums();
        now.start();
        return changes;
    }

    public int put(int place, int op) throws IndexOutOfBoundsException {
        if (place < 0 || place > now.length || place >= MOST_PROGRAM) {
            throw new IndexOutOfBoundsException("there is no such place");
        }
        needOp(op);
        history.remember(now);
        int was = now.opAt(place);
        now.program[place] = op;
        now.length = Math.max(now.length, place + 1);
        now.start();
        return was;
    }

    public int store(int cell, int n) throws IndexOutOfBoundsException, IllegalArgumentException {
        needCell(cell);
        needNumber(n, 0, 3);
        history.remember(now);
        int was = now.firstCells[cell & 7];
        now.firstCells[cell & 7] = n;
        now.start();
        return was;
    }

    public int vector(int n) throws IllegalArgumentException {
        needNumber(n, 0, 9);
        history.remember(now);
        int was = now.vector;
        now.vector = n;
        now.start();
        return was;
    }

    public int shift(int n) throws IllegalArgumentException {
        needNumber(n, 0, 3);
        history.remember(now);
        int was = now.shift / 2;
        now.shift = 2 * n;
        now.start();
        return was;
    }

    public int cost(int n) throws IllegalArgumentException {
        needNumber(n, 0, 7);
        history.remember(now);
        int was = now.cost;
        now.cost = n;
        now.start();
        return was;
    }

    public int alarm(int n) throws IllegalArgumentException {
        needNumber(n, 0, 100);
        history.remember(now);
        int was = now.alarm;
        now.alarm = n;
        now.start();
        return was;
    }

    public boolean hostable() {
        return open() == 0;
    }

    public boolean alike() {
        return now.viewsAlike();
    }

    /** A world to try things in, of which nothing stays. */
    private void makeSpare() {
        ledger.traits.learn(now.ops);
        spare.copyFrom(now);
    }

    public int leaks() {
        makeSpare();
        return spare.firstLeak(ledger);
    }

    public int traps(int n) throws IllegalArgumentException {
        needNumber(n, 0, MOST_STEPS);
        makeSpare();
        spare.start();
        int trapped = 0;
        for (int i = 0; i < n; i++) {
            if (spare.isTrap(spare.stepHosted(ledger))) {
                trapped++;
            }
        }
        return trapped;
    }

    public int depth(int n, int d) throws IllegalArgumentException {
        needNumber(n, 0, MOST_STEPS);
        needNumber(d, 0, 5);
        makeSpare();
        spare.start();
        int taken = 0;
        for (int i = 0; i < n; i++) {
            int op = spare.opAt(spare.hosted.pc);
            int came = spare.stepHosted(ledger);
            if (came != HALTED) {
                taken += spare.isTrap(came) ? 1 + d * emulation(op) : 1;
            }
        }
        return taken;
    }

    public int least() {
        ledger.traits.learn(now.ops);
        int bits = 0;
        for (int op = 0; op < now.ops.total; op++) {
            if (isSensitive(op) && !now.ops.isGuarded(op) && !now.ops.isPatched(op)) {
                bits |= 1 << op;
            }
        }
        return bits;
    }

    public int proof() {
        makeSpare();
        int total = now.ops.total;
        int programs = 1;
        for (int length = 1; length <= 3; length++) {
            programs *= total;
            for (int number = 0; number < programs; number++) {
                int figures = makeProgram(length, number, total);
                if (spare.firstLeak(ledger) != NONE) {
                    return 1000 * length + figures;
                }
            }
        }
        return NONE;
    }

    /** The number's digits, to the base of how many OPS there are, are the PROGRAM: told as figures. */
    private int makeProgram(int length, int number, int total) {
        int rest = number;
        int figures = 0;
        int weight = 1;
        for (int k = length - 1; k >= 0 && k < MOST_PROGRAM && total > 0; k--) {
            int op = rest % total;
            rest = rest / total;
            spare.program[k] = op;
            figures += weight * (op + 1);
            weight *= 10;
        }
        spare.length = length;
        return figures;
    }

    public boolean clash(int op, int other) throws IndexOutOfBoundsException, IllegalArgumentException {
        needOp(op);
        needOp(other);
        if (op == other) {
            throw new IllegalArgumentException("both are one");
        }
        return now.ops.collide(op, other);
    }

    public int beside() {
        int best = 0;
        for (int set = 1; set < 1 << now.ops.total; set++) {
            if (Integer.bitCount(set) > Integer.bitCount(best) && isPeaceful(set)) {
                best = set;
            }
        }
        return best;
    }

    private boolean isPeaceful(int set) {
        for (int op = 0; op < now.ops.total; op++) {
            for (int other = 0; other < op; other++) {
                if ((set >> op & 1) == 1 && (set >> other & 1) == 1 && now.ops.collide(op, other)) {
                    return false;
                }
            }
        }
        return true;
    }

    public int open() {
        ledger.traits.learn(now.ops);
        int found = 0;
        for (int op = 0; op < now.ops.total; op++) {
            if (isSensitive(op) && !now.ops.isGuarded(op)) {
                found++;
            }
        }
        return found;
    }

    /** Takes the TAPE as rows of what and how much. */
    private void takeRows() {
        useTape();
        if (reader.size > MOST_TOLD || reader.size % 2 != 0) {
            throw new IllegalArgumentException("the TAPE is no rows");
        }
        for (int at = 0; at < reader.size; at += 2) {
            if (reader.byteAt(at) > 6 || reader.byteAt(at + 1) > 10) {
                throw new IllegalArgumentException("a row is none");
            }
        }
        ledger.traits.learn(now.ops);
    }

    private int feature(int op, int what) {
        switch (what) {
            case 0: return now.ops.size(op);
            case 1: return now.ops.isGuarded(op) ? 1 : 0;
            case 6: return now.ops.kindAt(op, 0);
            default: return shows(op, what - 2) ? 1 : 0;
        }
    }

    private int wrongRows(int op) {
        int wrong = 0;
        for (int at = 0; at < reader.size; at += 2) {
            if (feature(op, reader.byteAt(at)) != reader.byteAt(at + 1)) {
                wrong++;
            }
        }
        return wrong;
    }

    private int fitting() {
        int bits = 0;
        for (int op = 0; op < now.ops.total; op++) {
            if (wrongRows(op) <= MOST_WRONG) {
                bits |= 1 << op;
            }
        }
        return bits;
    }

    public int which() throws IllegalArgumentException {
        takeRows();
        return fitting();
    }

    public int likely() throws IllegalArgumentException {
        takeRows();
        int best = NONE;
        int fewest = MOST_WRONG + 1;
        for (int op = 0; op < now.ops.total; op++) {
            int wrong = wrongRows(op);
            if (wrong < fewest) {
                fewest = wrong;
                best = op;
            }
        }
        return best;
    }

    public int ask() throws IllegalArgumentException {
        takeRows();
        int fit = fitting();
        if (Integer.bitCount(fit) < 2) {
            return NONE;
        }
        int best = 0;
        int least = MOST_OPS + 1;
        for (int what = 0; what <= 6; what++) {
            int part = greatestPart(fit, what);
            if (part < least) {
                least = part;
                best = what;
            }
        }
        return best;
    }

    private int greatestPart(int set, int what) {
        int greatest = 0;
        for (int value = 0; value <= 10; value++) {
            int part = 0;
            for (int op = 0; op < now.ops.total; op++) {
                if ((set >> op & 1) == 1 && feature(op, what) == value) {
                    part++;
                }
            }
            greatest = Math.max(greatest, part);
        }
        return greatest;
    }

    /** Into the table, for the CELLS from one on to another one: how much more who takes first has. */
    private void playTurns() {
        for (int from = CELLS - 1; from >= 0; from--) {
            table[from * CELLS + from] = now.firstCells[from];
            for (int to = from + 1; to < CELLS; to++) {
                table[from * CELLS + to] = Math.max(byLeft(from, to), byRight(from, to));
            }
        }
    }

    private int byLeft(int from, int to) {
        return now.firstCells[from & 7] - table[((from + 1) & 7) * CELLS + (to & 7)];
    }

    private int byRight(int from, int to) {
        return now.firstCells[to & 7] - table[(from & 7) * CELLS + ((to - 1) & 7)];
    }

    public int lead() {
        playTurns();
        return table[CELLS - 1];
    }

    public int side() {
        playTurns();
        return byRight(0, CELLS - 1) > byLeft(0, CELLS - 1) ? 1 : 0;
    }

    /** Into the table, for each set of OPS: the most MICROS that can be put two by two of it. */
    private void pairSets() {
        table[0] = 0;
        for (int set = 1; set < 1 << now.ops.total && set < table.length; set++) {
            int op = lowest(set);
            int rest = set & (set - 1);
            int most = table[rest];
            for (int other = op + 1; other < now.ops.total; other++) {
                most = Math.max(most, pairedWith(op, other, rest));
            }
            table[set] = most;
        }
    }

    /** The MICROS if an OP goes with another one of the rest; NONE if it cannot. */
    private int pairedWith(int op, int other, int rest) {
        if ((rest >> other & 1) == 0 || now.ops.collide(op, other)) {
            return NONE;
        }
        int left = rest & ~(1 << other);
        if (left < 0 || left >= table.length) {
            return NONE;
        }
        return now.ops.size(op) + now.ops.size(other) + table[left];
    }

    public int pairs(int op) throws IndexOutOfBoundsException {
        if (op != NONE) {
            needOp(op);
        }
        pairSets();
        int set = (1 << now.ops.total) - 1;
        if (op == NONE) {
            return set >= 0 && set < table.length ? table[set] : 0;
        }
        return partnerOf(op, set);
    }

    private int lowest(int set) {
        for (int op = 0; op < MOST_OPS; op++) {
            if ((set >> op & 1) == 1) {
                return op;
            }
        }
        return MOST_OPS;
    }

    private int partnerOf(int sought, int all) {
        int set = all;
        for (int i = 0; i < MOST_OPS && set > 0 && set < table.length; i++) {
            int op = lowest(set);
            int rest = set & (set - 1);
            int other = NONE;
            if (table[rest] != table[set]) {
                other = firstPartner(op, rest, table[set]);
            }
            if (op == sought) {
                return other;
            }
            if (other == sought) {
                return op;
            }
            set = other == NONE ? rest : rest & ~(1 << other);
        }
        return NONE;
    }

    private int firstPartner(int op, int rest, int most) {
        for (int other = op + 1; other < now.ops.total; other++) {
            if (pairedWith(op, other, rest) == most) {
                return other;
            }
        }
        return NONE;
    }

    public int rests(int op) throws IndexOutOfBoundsException {
        needOp(op);
        ledger.traits.learn(now.ops);
        int bits = 0;
        for (int choice = 0; choice < 4; choice++) {
            // Bit 1 of a choice is the guest's, bit 0 the host's.
            boolean guestStays = guestHas(op, choice) >= guestHas(op, choice ^ 2);
            boolean hostStays = hostHas(op, choice) >= hostHas(op, choice ^ 1);
            if (guestStays && hostStays) {
                bits |= 1 << choice;
            }
        }
        return bits;
    }

    private int guestHas(int op, int choice) {
        switch (choice) {
            case 0: return -blame(op);
            case 1: return now.ops.size(op);
            default: return 0;
        }
    }

    private int hostHas(int op, int choice) {
        switch (choice) {
            case 0: return worth(op);
            case 1: return -emulation(op);
            case 2: return -1;
            default: return 1;
        }
    }

    public int odds(int n, int k) throws IllegalArgumentException {
        needNumber(n, 0, 5);
        needNumber(k, 0, 5);
        long ways = 1;
        long sum = 0;
        for (int alarms = 0; alarms <= n; alarms++) {
            if (alarms >= k) {
                sum += ways * power(now.alarm, alarms) * power(100 - now.alarm, n - alarms);
            }
            ways = ways * (n - alarms) / (alarms + 1);
        }
        long all = power(100, n);
        return all <= 0 ? 0 : (int) (10000 * sum / all);
    }

    private long power(long base, int times) {
        long product = 1;
        for (int i = 0; i < times && i < 5; i++) {
            product *= base;
        }
        return product;
    }

    public int most(int what) throws NoSuchElementException {
        needWhat(what, 2);
        ledger.traits.learn(now.ops);
        int best = NONE;
        int greatest = NONE;
        for (int op = 0; op < now.ops.total; op++) {
            int much = measure(op, what);
            if (much > greatest) {
                greatest = much;
                best = op;
            }
        }
        return best;
    }

    private int measure(int op, int what) {
        switch (what) {
            case 0: return now.ops.size(op);
            case 1: return emulation(op);
            default: return now.usesOf(op);
        }
    }

    public int twins() {
        int found = 0;
        for (int op = 0; op < now.ops.total; op++) {
            for (int other = 0; other < op; other++) {
                if (now.ops.areTwins(op, other)) {
                    found++;
                }
            }
        }
        return found;
    }

    public int ahead(int n, boolean hosted) throws IllegalArgumentException {
        needNumber(n, 0, MOST_STEPS);
        makeSpare();
        for (int i = 0; i < n; i++) {
            spare.stepBare();
            spare.stepHosted(ledger);
        }
        return hosted ? spare.hosted.pc : spare.bare.pc;
    }

    public int trial(int n, boolean views) throws IllegalArgumentException {
        needNumber(n, 0, MOST_STEPS);
        makeSpare();
        spare.tickMany(n, ledger);
        if (views) {
            return spare.viewsAlike() ? 1 : 0;
        }
        return spare.purse;
    }

    public int span(int n, boolean most) throws IllegalArgumentException {
        needNumber(n, 0, MOST_STEPS);
        int found = most ? 0 : HIGHEST;
        for (int seed = 1; seed <= 6; seed++) {
            makeSpare();
            spare.seed = seed;
            spare.tickMany(n, ledger);
            found = most ? Math.max(found, spare.purse) : Math.min(found, spare.purse);
        }
        return found;
    }

    public int led(int op, boolean tick) throws IndexOutOfBoundsException {
        needOp(op);
        int found = 0;
        for (int ago = 0; ago < now.rows.rows; ago++) {
            if (now.rows.get(ago, 1) == op) {
                if (tick) {
                    return now.rows.get(ago, 0);
                }
                found++;
            }
        }
        return tick ? NONE : found;
    }

    public int log(int ago, int what) throws NoSuchElementException {
        needWhat(what, 3);
        return now.rows.get(ago, what);
    }

    public int seed(int n) {
        int was = now.seed;
        now.seed = n;
        return was;
    }

    public boolean undo() {
        ledger.forgetSums();
        return history.takeBack(now);
    }

    public void image() {
        kept.copyFrom(now);
        keptRules.copyFrom(ledger.rules);
        hasImage = true;
    }

    public boolean back() {
        if (!hasImage) {
            return false;
        }
        now.copyFrom(kept);
        ledger.rules.copyFrom(keptRules);
        ledger.traits.forget();
        forgetActs();
        return true;
    }

    public int count(int what) {
        switch (what) {
            case 0: return now.ops.total;
            case 1: return now.texts;
            case 2: return ledger.rules.told ? ledger.rules.lines : NONE;
            case 3: return now.length;
            case 4: return now.vector;
            case 5: return now.shift / 2;
            case 6: return now.cost;
            case 7: return now.alarm;
            case 8: return now.tick;
            case 9: return now.purse;
            case 10: return now.rows.rows;
            case 11: return history.acts;
            default: return NONE;
        }
    }
}
