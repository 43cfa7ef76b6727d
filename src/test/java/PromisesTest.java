import java.util.NoSuchElementException;

/** Each promise of the document, with answers worked out by hand. */
public final class PromisesTest {
    private static final Class<?> BOUNDS = IndexOutOfBoundsException.class;
    private static final Class<?> ARGUMENT = IllegalArgumentException.class;
    private static final Class<?> ELEMENT = NoSuchElementException.class;
    private static final int NONE = GuestView.NONE;

    // 0 control, 1 none while guarded, 3 modal, 4 control, 5 local, 6 timed.
    private static final String EIGHT = "op guarded drop;op guarded rise;op add 1;op who;op move;op where;op time;op skip 1 add 2";
    private static final String SAVERS = "op save 1;op load 1;op save 1;op load 2 save 3;op load 3";

    private final Due due = new Due();

    public static void main(String[] args) {
        PromisesTest test = new PromisesTest();
        test.newObject();
        test.tape();
        test.benchTexts();
        test.benchFaults();
        test.laws();
        test.lawFaults();
        test.ops();
        test.traits();
        test.doneInStates();
        test.programsAndCells();
        test.guestsAlike();
        test.guestsUnlike();
        test.clocks();
        test.alarms();
        test.bounds();
        test.settings();
        test.puts();
        test.leaksAndTraps();
        test.proofs();
        test.clashes();
        test.rows();
        test.turns();
        test.pairsAndTwins();
        test.restsOfLaw();
        test.oddsOfAlarms();
        test.mostOf();
        test.aheadAndTrials();
        test.logs();
        test.undone();
        test.images();
        test.due.finish();
    }

    // Promise 1, 53
    private void newObject() {
        GuestView x = new GuestView();
        int[] counts = {0, 0, NONE, 0, 0, 1, 1, 0, 0, 0, 0, 0, NONE};
        for (int what = 0; what < counts.length; what++) {
            due.is("count(" + what + ") of a new one", x.count(what), counts[what]);
        }
        due.is("count(-1)", x.count(-1), NONE);
        due.is("fault", x.fault(), NONE);
        due.is("hostable", x.hostable(), true);
        due.is("alike", x.alike(), true);
        due.is("mode", x.guest(true, 2), 1);
        due.is("mode", x.guest(false, 2), 1);
        due.is("halted", x.guest(true, 5), 1);
        due.is("leaks", x.leaks(), NONE);
        due.is("proof", x.proof(), NONE);
        due.is("beside", x.beside(), 0);
        due.is("pairs", x.pairs(NONE), 0);
        due.is("least", x.least(), 0);
        due.is("most", x.most(0), NONE);
        due.is("most", x.most(1), NONE);
        due.is("most", x.most(2), NONE);
        due.is("which", x.which(), 0);
        due.is("likely", x.likely(), NONE);
        due.is("ask", x.ask(), NONE);
        due.is("seed", x.seed(5), 1);
        due.is("undo", x.undo(), false);
        due.is("back", x.back(), false);
        due.is("ticks", x.ticks(60), 0);
        due.is("count(8)", x.count(8), 60);
        due.throwing("op", BOUNDS, () -> x.op(0, 0));
    }

    // Promises 2, 3
    private void tape() {
        GuestView x = new GuestView();
        for (int n = 20; n <= 400; n += 20) {
            due.is("feed", x.feed(0x20202020, 0x20202020, 0x20202020, 0x20202020, 0x20202020), n);
        }
        due.is("feed beyond 400", x.feed(1, 2, 3, 4, 5), NONE);
        due.is("end below 0", x.end(-1), false);
        due.is("end above", x.end(401), false);
        due.is("end of all", x.end(400), true);
        due.is("end", x.end(381), true);
        due.is("feed beyond 400 by one", x.feed(1, 2, 3, 4, 5), NONE);
        due.is("blanks alone", x.bench(), 1);
        due.is("used up", x.end(1), false);
        due.is("the empty text", x.bench(), 2);
        // "op rise" is 6f 70 20 72 69 73 65: the highest byte of a number comes first.
        due.is("feed", x.feed(0x6f702072, 0x69736500, -1, 0, 0), 20);
        due.is("end", x.end(7), true);
        due.is("bench", x.bench(), 3);
        due.is("KIND", x.micro(0, 0, false), 3);
        x.feed(-1, 0, 0, 0, 0);
        x.end(1);
        due.throwing("byte 255", ARGUMENT, x::bench);
        due.is("fault", x.fault(), 0);
    }

    // Promises 4, 6
    private void benchTexts() {
        GuestView x = new GuestView();
        due.is("bench", Due.bench(x, "  op guarded add1load 007save 2 ; program0 0;cells 3 2;cost7 ;shift 3;vector 9;alarm 100;purse 999 "), 1);
        int[] counts = {1, 1, NONE, 2, 9, 3, 7, 100, 0, 999, 0, 0};
        for (int what = 0; what < counts.length; what++) {
            due.is("count(" + what + ")", x.count(what), counts[what]);
        }
        due.is("N", x.micro(0, 1, true), 7);
        due.is("cell", x.cell(1), 2);
        due.is("bench behind it", Due.bench(x, "op rise;program 1 0 1"), 2);
        due.is("ops", x.count(0), 2);
        due.is("program in place", x.count(3), 3);
        due.is("cells that were not told stay", Due.bench(x, "cells 1"), 3);
        due.is("cell", x.cell(0), 1);
        due.is("cell", x.cell(1), 2);
        due.is("program without", Due.bench(x, "program"), 4);
        due.is("program", x.count(3), 0);
        for (int n = 5; n <= 12; n++) {
            due.is("bench", Due.bench(x, ""), n);
        }
        due.wrongBench(x, "vat", 0);
        Due.tape(x, "cost 0");
        due.throwing("a 13th text", UnsupportedOperationException.class, x::bench);
        due.is("fault", x.fault(), NONE);
        due.is("cost", x.count(6), 7);
        due.is("texts", x.count(1), 12);
        due.is("the tape is used up", x.end(1), false);
        due.is("14 LINES", Due.bench(new GuestView(), "cost 1" + ";cost 1".repeat(13)), 1);
    }

    // Promises 4, 6
    private void benchFaults() {
        GuestView x = Due.with("op rise;cells 1;vector 4");
        due.wrongBench(x, "op", 2);
        due.wrongBench(x, "op ", 3);
        due.wrongBench(x, "op;", 2);
        due.wrongBench(x, "op guarded", 10);
        due.wrongBench(x, "op guarded guarded rise", 11);
        due.wrongBench(x, "op rise guarded", 8);
        due.wrongBench(x, "op add", 6);
        due.wrongBench(x, "op add rise", 7);
        due.wrongBench(x, "op add 8", 7);
        due.wrongBench(x, "op add 0007", 7);
        due.wrongBench(x, "op add 1 2", 9);
        due.wrongBench(x, "op rise 1", 8);
        due.wrongBench(x, "op rise drop move where", 18);
        due.wrongBench(x, "op risedrop", 3);
        due.wrongBench(x, "opening", 0);
        due.wrongBench(x, "Op rise", 0);
        due.wrongBench(x, "opz rise", 0);
        due.wrongBench(x, "op{rise", 2);
        due.wrongBench(x, " ;", 1);
        due.wrongBench(x, "cost 1;", 7);
        due.wrongBench(x, "cost 1 ; ", 9);
        due.wrongBench(x, "cost 1;;cost 2", 7);
        due.wrongBench(x, "cost 1 cost 2", 7);
        due.wrongBench(x, "cost", 4);
        due.wrongBench(x, "cost 8", 5);
        due.wrongBench(x, "cost -1", 5);
        due.wrongBench(x, "vector 10", 7);
        due.wrongBench(x, "shift 4", 6);
        due.wrongBench(x, "alarm 101", 6);
        due.wrongBench(x, "purse 1000", 6);
        due.wrongBench(x, "cells", 5);
        due.wrongBench(x, "cells 4", 6);
        due.wrongBench(x, "cells 0 0 0 0 0 0 0 0 0", 22);
        due.wrongBench(x, "program 1", 8);
        due.wrongBench(x, "program 1;op rise", 8);
        due.wrongBench(x, "program 0 0 0 0 0 0 0 0 0 0 0", 28);
        due.wrongBench(x, "op rise" + ";op rise".repeat(7), 56);
        due.wrongBench(x, "cost 1" + ";cost 1".repeat(14), 98);
        due.wrongBench(x, "cells 3 3;vector 5;op drop;shift 0;purse 9;fly", 43);
        due.is("nothing stays: cells", x.cell(0), 1);
        due.is("nothing stays: vector", x.count(4), 4);
        due.is("nothing stays: ops", x.count(0), 1);
        due.is("nothing stays: shift", x.count(5), 1);
        due.is("nothing stays: purse", x.count(9), 0);
        due.is("nothing stays: texts", x.count(1), 1);
        due.is("seven more OPS", Due.bench(x, "op rise" + ";op rise".repeat(6)), 2);
        due.is("fault is none again", x.fault(), NONE);
        due.wrongBench(x, "cost 2;op fly", 7);
    }

    // Promises 5, 7
    private void laws() {
        GuestView x = Due.with(EIGHT + ";program 7 7 6;cost 2");
        due.is("law", Due.law(x, " cost 5 if op<1;blame 10 if guarded and not patched;worth 3 if sensitive;worth 40if uses>1 or timed+micros>1"), 4);
        due.is("count(2)", x.count(2), 4);
        due.is("EMULATION", x.op(0, 8), 7);
        due.is("EMULATION", x.op(1, 8), 2);
        due.is("BLAME", x.op(0, 9), 10);
        due.is("BLAME", x.op(2, 9), 0);
        x.patch(0, true);
        due.is("BLAME of one PATCHED", x.op(0, 9), 0);
        int[] worths = {4, 1, 1, 4, 4, 4, 41, 41};
        for (int op = 0; op < 8; op++) {
            due.is("WORTH", x.op(op, 10), worths[op]);
        }
        due.is("law in place", Due.law(x, "cost 1;cost 2;blame 7 if control+modal+local+timed>0"), 3);
        due.is("EMULATION", x.op(0, 8), 5);
        due.is("WORTH", x.op(6, 10), 1);
        int[] blames = {7, 0, 0, 7, 7, 7, 7, 0};
        for (int op = 0; op < 8; op++) {
            due.is("BLAME", x.op(op, 9), blames[op]);
        }
        // and binds before or; ( changes that.
        Due.law(x, "blame 1 if op<1 or op<2 and op>5;blame 2 if (op<1 or op<2) and op>5;blame 4 if not op<1 and op<2;blame 8 if not (op<1 and op<2)");
        due.is("BLAME", x.op(0, 9), 1);
        due.is("BLAME", x.op(1, 9), 12);
        due.is("BLAME", x.op(6, 9), 8);
        Due.law(x, "worth 1 if not not not not not not guarded;worth 2 if ((((((guarded))))));worth 4 if 999>998+op");
        due.is("WORTH", x.op(0, 10), 8);
        due.is("WORTH", x.op(2, 10), 1);
        Due.bench(x, "program 0 0 0 0 0 0 0 0 0");
        Due.law(x, "cost 5 if op < 1;blame 3 if uses > 8;blame 4 if uses > 9");
        due.is("EMULATION", x.op(0, 8), 7);
        due.is("EMULATION of another one", x.op(1, 8), 2);
        due.is("BLAME of nine uses", x.op(0, 9), 3);
        x.put(9, 0);
        due.is("BLAME of ten uses", x.op(0, 9), 7);
        Due.bench(x, "program 7 7 6");
        due.is("the empty law", Due.law(x, "  "), 0);
        due.is("count(2)", x.count(2), 0);
        x.ticks(2);
        due.is("pc", x.guest(true, 0), 2);
        Due.law(x, "cost 1");
        due.is("no guest BOOTS by a law", x.guest(true, 0), 2);
        due.is("none are remembered behind a law", x.undo(), false);
    }

    // Promises 5, 6
    private void lawFaults() {
        GuestView x = Due.with("op rise");
        Due.law(x, "worth 9");
        due.wrongLaw(x, "tax 4", 0);
        due.wrongLaw(x, "cost", 4);
        due.wrongLaw(x, "cost 41", 5);
        due.wrongLaw(x, "cost 0040", 5);
        due.wrongLaw(x, "cost 4 5", 7);
        due.wrongLaw(x, "cost 4 iff guarded", 7);
        due.wrongLaw(x, "cost 4;", 7);
        due.wrongLaw(x, "cost 4 if", 9);
        due.wrongLaw(x, "cost 4 if ;", 10);
        due.wrongLaw(x, "cost 4 if guarded patched", 18);
        due.wrongLaw(x, "cost 4 if guarded or", 20);
        due.wrongLaw(x, "cost 4 if guarded and or", 22);
        due.wrongLaw(x, "cost 4 if uses", 14);
        due.wrongLaw(x, "cost 4 if uses + < 3", 17);
        due.wrongLaw(x, "cost 4 if uses < 3 < 4", 19);
        due.wrongLaw(x, "cost 4 if uses < guarded", 17);
        due.wrongLaw(x, "cost 4 if guarded < 3", 18);
        due.wrongLaw(x, "cost 4 if (uses) < 3", 15);
        due.wrongLaw(x, "cost 4 if (uses < 3", 19);
        due.wrongLaw(x, "cost 4 if uses < 3)", 18);
        due.wrongLaw(x, "cost 4 if uses < 1000", 17);
        due.wrongLaw(x, "cost 4 if uses = 3", 15);
        due.wrongLaw(x, "cost 4 if not not not not not not not guarded", 34);
        due.wrongLaw(x, "cost 4 if (not (not (not (guarded))))", 25);
        due.wrongLaw(x, "cost 4" + ";cost 4".repeat(12), 84);
        due.is("the law stays", x.op(0, 10), 10);
        due.is("LINES stay", x.count(2), 1);
        due.is("not beside one another", Due.law(x, "cost 1 if not guarded and not guarded and not (not guarded) and not patched and not patched and not patched and not patched"), 1);
    }

    // Promises 7, 8
    private void ops() {
        GuestView x = Due.with(EIGHT + ";program 7 7 6");
        int[] sizes = {1, 1, 1, 1, 1, 1, 1, 2};
        int[] guarded = {1, 1, 0, 0, 0, 0, 0, 0};
        int[] uses = {0, 0, 0, 0, 0, 0, 1, 2};
        int[] shares = {0, 0, 0, 0, 0, 0, 33, 66};
        for (int op = 0; op < 8; op++) {
            due.is("MICROS", x.op(op, 0), sizes[op]);
            due.is("GUARDED", x.op(op, 1), guarded[op]);
            due.is("PATCHED", x.op(op, 2), 0);
            due.is("EMULATION", x.op(op, 8), 1);
            due.is("BLAME", x.op(op, 9), 0);
            due.is("WORTH", x.op(op, 10), 1);
            due.is("uses", x.op(op, 11), uses[op]);
            due.is("SHARE", x.op(op, 12), shares[op]);
        }
        due.is("SHARE without PROGRAM", Due.with(EIGHT).op(0, 12), 0);
        due.is("KIND", x.micro(7, 0, false), 9);
        due.is("N", x.micro(7, 0, true), 1);
        due.is("KIND", x.micro(7, 1, false), 0);
        due.is("N", x.micro(7, 1, true), 2);
        due.is("N of a KIND without", x.micro(0, 0, true), 0);
        due.is("no such MICRO", x.micro(7, 2, false), NONE);
        due.is("no such MICRO", x.micro(7, -1, true), NONE);
        due.is("no such MICRO", x.micro(0, 1, true), NONE);
        due.throwing("op(8, 0)", BOUNDS, () -> x.op(8, 0));
        due.throwing("op(-1, 99)", BOUNDS, () -> x.op(-1, 99));
        due.throwing("op(0, 13)", ELEMENT, () -> x.op(0, 13));
        due.throwing("op(0, -1)", ELEMENT, () -> x.op(0, -1));
        due.throwing("micro(8)", BOUNDS, () -> x.micro(8, 0, false));
        GuestView all = Due.with("op add 1 load 2 save 3;op rise drop move;op where who time;op skip 4 quiet");
        for (int kind = 0; kind < 11; kind++) {
            due.is("KIND", all.micro(kind / 3, kind % 3, false), kind);
        }
    }

    // Promises 7, 9, 24, 29, 33
    private void traits() {
        GuestView x = Due.with(EIGHT);
        int[][] witnesses = {
            {4, NONE, NONE, NONE}, {NONE, NONE, NONE, NONE}, {NONE, NONE, NONE, NONE}, {NONE, 0, NONE, NONE},
            {1, NONE, NONE, NONE}, {NONE, NONE, 8, NONE}, {NONE, NONE, NONE, 0}, {NONE, NONE, NONE, NONE}};
        for (int op = 0; op < 8; op++) {
            for (int what = 0; what < 4; what++) {
                due.is("witness(" + op + ", " + what + ")", x.witness(op, what), witnesses[op][what]);
                due.is("op(" + op + ", " + (3 + what) + ")", x.op(op, 3 + what), witnesses[op][what] == NONE ? 0 : 1);
            }
            boolean sensitive = op == 0 || op == 3 || op == 4 || op == 5;
            due.is("SENSITIVE", x.op(op, 7), sensitive ? 1 : 0);
        }
        due.is("open", x.open(), 3);
        due.is("least", x.least(), 8 + 16 + 32);
        due.is("hostable", x.hostable(), false);
        x.patch(3, true);
        due.is("open", x.open(), 3);
        due.is("least", x.least(), 16 + 32);
        x.guard(1, false);
        due.is("rise without a guard", x.witness(1, 0), 0);
        due.is("open", x.open(), 4);
        for (int op : new int[] {1, 3, 4, 5}) {
            x.guard(op, true);
        }
        due.is("open", x.open(), 0);
        due.is("least", x.least(), 0);
        due.is("hostable", x.hostable(), true);
        due.is("who, guarded, is not modal", x.witness(3, 1), NONE);
        due.is("where, guarded", x.witness(5, 2), 12);
        due.is("move, guarded", x.witness(4, 0), 5);
        // PATTERN 1 has CELL k = k: from R 1 on the load shows where BASE went.
        GuestView y = Due.with("op move load 0;op time skip 1;op quiet save 0;op who add 1 skip 2");
        due.is("move load: CELLS 0 show nothing, so PATTERN 1 does", y.witness(0, 2), 40);
        due.is("time by skip", y.witness(1, 3), 0);
        due.is("quiet: CELL 0 is 0, so R 1 shows it", y.witness(2, 1), 1);
        due.is("who by skip", y.witness(3, 1), 0);
        due.throwing("witness(4, 9)", BOUNDS, () -> y.witness(4, 9));
        due.throwing("witness(0, 4)", ELEMENT, () -> y.witness(0, 4));
        due.throwing("witness(0, -1)", ELEMENT, () -> y.witness(0, -1));
    }

    // Promise 10
    private void doneInStates() {
        GuestView x = Due.with("op add 7 save 6 load 6;op guarded move;op where skip 3 drop;op rise who;op load 5;op skip 6 add 1 skip 0;op quiet add 1;op time");
        // 3 + 4 + 8 * 3 + 32 * 7: R 3, MODE 1, BASE 6, A 3, B 1: CELLS 1 0 3 2 1 0 3 2.
        int state = 3 + 4 + 8 * 3 + 32 * 7;
        int[] save = {0, 2, 1, 6, 0, 1, 0, 3, 2, 2, 0, 3, 2};
        int[] move = {0, 3, 1, 6, 0, 1, 0, 3, 2, 1, 0, 3, 2};
        for (int what = 0; what < 13; what++) {
            due.is("add save load, what " + what, x.done(0, state, what), save[what]);
            due.is("move, what " + what, x.done(1, state, what), move[what]);
            due.is("move in user mode", x.done(1, state - 4, what), what == 0 ? 1 : NONE);
        }
        due.is("where", x.done(2, state, 1), 3);
        due.is("where SKIPS", x.done(2, state, 4), 1);
        due.is("MICROS behind skip are done", x.done(2, state, 2), 0);
        due.is("rise who", x.done(3, 0, 1), 1);
        due.is("rise", x.done(3, 0, 2), 1);
        due.is("load 5 at BASE 6 is CELL 3", x.done(4, state, 1), 2);
        due.is("skip 6 is skip 2", x.done(5, 2, 4), 1);
        due.is("a later skip does not take it back", x.done(5, 3, 4), 1);
        due.is("no SKIP", x.done(5, 1, 4), 0);
        due.is("quiet in user mode", x.done(6, 1, 1), 1);
        due.is("quiet in supervisor mode", x.done(6, 5, 1), 2);
        due.is("CLOCK is 0", x.done(7, 3, 1), 0);
        due.is("move", x.done(1, 4 + 2, 3), 4);
        due.is("the last state", x.done(0, 511, 0), 0);
        due.throwing("done(8)", BOUNDS, () -> x.done(8, 512, 13));
        due.throwing("done(state 512)", ARGUMENT, () -> x.done(0, 512, 13));
        due.throwing("done(state -1)", ARGUMENT, () -> x.done(0, -1, 0));
        due.throwing("done(what 13)", ELEMENT, () -> x.done(0, 0, 13));
        due.throwing("done(what -1)", ELEMENT, () -> x.done(1, 0, -1));
    }

    // Promises 11, 12
    private void programsAndCells() {
        GuestView x = Due.with(EIGHT + ";program 7 0 7;cells 3 2 1 0 1 2 3 1");
        int[] program = {7, 0, 7, NONE};
        int[] cells = {3, 2, 1, 0, 1, 2, 3, 1};
        for (int k = 0; k < 4; k++) {
            due.is("program", x.program(k), program[k]);
        }
        due.is("program(-1)", x.program(-1), NONE);
        due.is("program(10)", x.program(10), NONE);
        for (int k = 0; k < 8; k++) {
            due.is("cell", x.cell(k), cells[k]);
            due.is("own cell", x.guest(true, 6 + k), cells[k]);
            due.is("own cell", x.guest(false, 6 + k), cells[k]);
        }
        due.throwing("cell(8)", BOUNDS, () -> x.cell(8));
        due.throwing("cell(-1)", BOUNDS, () -> x.cell(-1));
    }

    // Promises 13, 14, 15, 25
    private void guestsAlike() {
        GuestView x = Due.with("op load 3;op save 1;op guarded drop;op skip 2;op add 1;program 0 1 3 4 2 2;cells 0 0 1 2;vector 3");
        // load 3: R 2; save 1; skip 2 SKIPS add; drop; drop traps: to VECTOR 3 in supervisor mode.
        int[] pcs = {1, 2, 4, 5, 3, 4, 5, 3};
        int[] rs = {2, 2, 2, 2, 2, 3, 3, 3};
        int[] modes = {1, 1, 1, 0, 1, 1, 0, 1};
        int[] trapped = {0, 0, 0, 1, 1, 0, 1, 1};
        for (int n = 0; n < 8; n++) {
            due.is("ticks", x.ticks(1), trapped[n]);
            for (int hosted = 0; hosted < 2; hosted++) {
                due.is("PC behind " + (n + 1), x.guest(hosted == 1, 0), pcs[n]);
                due.is("R behind " + (n + 1), x.guest(hosted == 1, 1), rs[n]);
                due.is("MODE behind " + (n + 1), x.guest(hosted == 1, 2), modes[n]);
                due.is("CELL 1 behind " + (n + 1), x.guest(hosted == 1, 7), n == 0 ? 0 : 2);
            }
            due.is("alike", x.alike(), true);
        }
        due.is("BARE CLOCK", x.guest(false, 4), 0);
        due.is("HOSTED CLOCK", x.guest(true, 4), (8 + 4) % 8);
        due.is("PURSE", x.count(9), 4);
        due.is("TICK", x.count(8), 8);
        x.boot();
        due.is("PC at BOOT", x.guest(true, 0), 0);
        due.is("CELL at BOOT", x.guest(true, 7), 0);
        due.is("CLOCK at BOOT", x.guest(true, 4), 0);
        due.is("TICK stays", x.count(8), 8);
        due.is("PURSE stays", x.count(9), 4);
        due.is("THE LOG stays", x.count(10), 4);
        due.throwing("guest(14)", ELEMENT, () -> x.guest(true, 14));
        due.throwing("guest(-1)", ELEMENT, () -> x.guest(false, -1));
        due.throwing("ticks(0)", ARGUMENT, () -> x.ticks(0));
        due.throwing("ticks(61)", ARGUMENT, () -> x.ticks(61));
        GuestView y = Due.with("op skip 0;program 0");
        y.ticks(1);
        due.is("SKIPS beyond the end", y.guest(false, 0), 2);
        due.is("HALTED", y.guest(false, 5), 1);
        due.is("nothing more", y.ticks(5), 0);
        due.is("PC", y.guest(true, 0), 2);
        due.is("CLOCK", y.guest(true, 4), 1);
    }

    // Promises 13, 16, 17, 25, 26
    private void guestsUnlike() {
        GuestView x = Due.with(EIGHT + ";program 3");
        x.ticks(1);
        due.is("who, bare", x.guest(false, 1), 1);
        due.is("who, hosted", x.guest(true, 1), 0);
        due.is("alike", x.alike(), false);
        due.is("patch", x.patch(3, true), true);
        due.is("patched BOOTS", x.guest(true, 0), 0);
        due.is("patch again", x.patch(3, true), false);
        due.is("PATCHED", x.op(3, 2), 1);
        due.is("ticks", x.ticks(1), 1);
        due.is("alike", x.alike(), true);
        due.is("patch off", x.patch(3, false), true);
        due.is("guard", x.guard(3, true), true);
        due.is("guard again", x.guard(3, true), false);
        due.is("GUARDED", x.op(3, 1), 1);
        due.is("leaks", x.leaks(), NONE);
        due.is("guard off", x.guard(3, false), true);
        due.is("leaks", x.leaks(), 1);
        due.throwing("patch(8)", BOUNDS, () -> x.patch(8, true) ? 1 : 0);
        due.throwing("guard(-1)", BOUNDS, () -> x.guard(-1, true) ? 1 : 0);

        // move with R 0: BASE 0 of the host is VIRTUAL BASE 6 at SHIFT 2.
        GuestView y = Due.with(EIGHT + ";program 4 5");
        y.ticks(1);
        due.is("BASE, bare", y.guest(false, 3), 0);
        due.is("BASE, hosted", y.guest(true, 3), 6);
        y.ticks(1);
        due.is("where, hosted: the host's BASE", y.guest(true, 1), 0);
        due.is("leaks", y.leaks(), 1);
        due.is("shift", y.shift(0), 1);
        due.is("without a shift", y.leaks(), NONE);
        y.shift(3);
        y.put(0, 5);
        due.is("where at SHIFT 6", y.leaks(), 1);
        y.ticks(1);
        due.is("where at SHIFT 6", y.guest(true, 1), 3);

        // PATCHED is not GUARDED: in user mode it is EMULATED, not REFLECTED, and does not trap on the bare one.
        GuestView z = Due.with("op drop;op who;program 0 1;vector 5");
        z.patch(0, true);
        z.patch(1, true);
        z.ticks(2);
        due.is("PC", z.guest(true, 0), 2);
        due.is("R", z.guest(true, 1), 0);
        due.is("alike", z.alike(), true);
    }

    // Promises 13, 22, 26
    private void clocks() {
        GuestView x = Due.with(EIGHT + ";program 0 6");
        due.is("cost 1", x.leaks(), 2);
        x.ticks(2);
        due.is("R, bare", x.guest(false, 1), 1);
        due.is("R, hosted", x.guest(true, 1), 2);
        due.is("CLOCK, bare", x.guest(false, 4), 2);
        due.is("CLOCK, hosted", x.guest(true, 4), 3);
        due.is("cost", x.cost(4), 1);
        due.is("cost 4 is not seen modulo 4", x.leaks(), NONE);
        due.is("cost", x.cost(0), 4);
        due.is("cost 0", x.leaks(), NONE);
        Due.law(x, "cost 3 if op < 1;blame 9;worth 9");
        due.is("by law", x.leaks(), 2);
        x.ticks(1);
        due.is("CLOCK, hosted", x.guest(true, 4), 4);
        due.throwing("cost(8)", ARGUMENT, () -> x.cost(8));
        due.throwing("cost(-1)", ARGUMENT, () -> x.cost(-1));
    }

    // Promises 14, 23, 48, 49: the first draws modulo 100 from SEED 1 are 38 58 13 15 51 27
    private void alarms() {
        GuestView x = Due.with("op add 1;program 0 0 0 0 0;vector 3");
        due.is("alarm", x.alarm(38), 0);
        x.ticks(1);
        due.is("38 is not below 38", x.count(10), 0);
        due.is("SEED", x.seed(1), 1103527590);
        due.is("alarm", x.alarm(39), 38);
        x.ticks(1);
        due.is("38 is below 39", x.count(10), 1);
        due.is("PC", x.guest(true, 0), 3);
        due.is("PC", x.guest(false, 0), 3);
        due.is("R", x.guest(false, 1), 0);
        due.is("CLOCK stays", x.guest(false, 4), 0);
        due.is("TICK", x.count(8), 2);
        int[] row = {1, NONE, 4, 0};
        for (int what = 0; what < 4; what++) {
            due.is("log", x.log(0, what), row[what]);
        }
        x.alarm(30);
        x.seed(1);
        x.ticks(6);
        due.is("alarms", x.count(10), 4);
        due.is("PC of the HOSTED one ahead", x.log(2, 3), 2);
        due.is("an alarm twice", x.log(1, 3), 3);
        due.is("the third", x.log(0, 3), 4);
        GuestView user = Due.with("op guarded drop;op add 1;program 0 1 1;vector 2");
        user.ticks(1);
        due.is("MODE", user.guest(false, 2), 0);
        due.is("SEED", user.seed(0), 1103527590);
        // SEED 1 draws 38, SEED 2 draws 8.
        user.alarm(9);
        user.seed(1);
        user.ticks(1);
        user.seed(2);
        due.is("MODE", user.guest(true, 2), 0);
        user.ticks(1);
        due.is("MODE by an alarm", user.guest(true, 2), 1);
        due.is("MODE by an alarm", user.guest(false, 2), 1);
        due.is("PC by an alarm", user.guest(false, 0), 2);
        GuestView y = Due.with("op add 1;program 0;alarm 100;vector 0");
        y.ticks(5);
        due.is("always an alarm", y.count(10), 5);
        due.is("R", y.guest(true, 1), 0);
        y.alarm(0);
        y.seed(1);
        y.ticks(5);
        due.is("HALTED", y.guest(true, 5), 1);
        due.is("draws go on: the 6th is 27", y.trial(1, true), 1);
        due.is("SEED goes on without alarms", y.seed(0) != 1, true);
        due.throwing("alarm(101)", ARGUMENT, () -> y.alarm(101));
        due.throwing("alarm(-1)", ARGUMENT, () -> y.alarm(-1));
    }

    // Promise 14: 9999 at most
    private void bounds() {
        GuestView x = Due.with("op guarded drop;program 0 0;purse 999");
        Due.law(x, "worth 40;worth 40");
        for (int n = 0; n < 166; n++) {
            due.is("ticks", x.ticks(60), 60);
        }
        due.is("TICK", x.count(8), 9960);
        due.is("PURSE", x.count(9), 9999);
        x.ticks(39);
        due.is("TICK", x.count(8), 9999);
        x.ticks(2);
        due.is("TICK at most", x.count(8), 9999);
        due.is("log", x.log(0, 0), 9999);
        due.is("rows", x.count(10), 60);
        due.is("the oldest", x.log(59, 0), 9999 - 58);
        due.is("none", x.log(60, 0), -2);
        due.is("trial", x.trial(60, false), 9999);
        GuestView y = Due.with("op guarded drop;program 0;purse 999");
        Due.law(y, "worth 40");
        y.ticks(1);
        due.is("PURSE", y.count(9), 999 + 41);
    }

    // Promises 19, 20, 21, 22, 23
    private void settings() {
        GuestView x = Due.with("op add 1;program 0;cells 1 2 3;vector 4;shift 2;cost 3;alarm 7");
        x.ticks(1);
        due.is("store", x.store(7, 3), 0);
        due.is("store", x.store(7, 1), 3);
        due.is("BOOT", x.guest(true, 13), 1);
        due.is("vector", x.vector(9), 4);
        due.is("vector", x.vector(0), 9);
        due.is("shift", x.shift(3), 2);
        due.is("shift", x.shift(0), 3);
        due.is("cost", x.cost(7), 3);
        due.is("cost", x.cost(0), 7);
        due.is("alarm", x.alarm(100), 7);
        due.is("alarm", x.alarm(0), 100);
        x.ticks(1);
        x.vector(0);
        due.is("BOOT", x.guest(false, 0), 0);
        x.ticks(1);
        x.shift(1);
        due.is("BOOT", x.guest(false, 0), 0);
        x.ticks(1);
        x.cost(1);
        due.is("BOOT", x.guest(false, 0), 0);
        x.ticks(1);
        x.alarm(0);
        due.is("BOOT", x.guest(false, 0), 0);
        x.ticks(1);
        x.store(0, 0);
        due.is("BOOT", x.guest(false, 0), 0);
        int acts = x.count(11);
        due.throwing("store(8, 9)", BOUNDS, () -> x.store(8, 9));
        due.throwing("store(-1, 0)", BOUNDS, () -> x.store(-1, 0));
        due.throwing("store(0, 4)", ARGUMENT, () -> x.store(0, 4));
        due.throwing("store(0, -1)", ARGUMENT, () -> x.store(0, -1));
        due.throwing("vector(10)", ARGUMENT, () -> x.vector(10));
        due.throwing("vector(-1)", ARGUMENT, () -> x.vector(-1));
        due.throwing("shift(4)", ARGUMENT, () -> x.shift(4));
        due.throwing("shift(-1)", ARGUMENT, () -> x.shift(-1));
        due.is("no acts", x.count(11), acts);
    }

    // Promise 18
    private void puts() {
        GuestView x = Due.with("op add 1;op add 2");
        due.throwing("put(1, 0) ahead of 0", BOUNDS, () -> x.put(1, 0));
        due.throwing("put(0, 2)", BOUNDS, () -> x.put(0, 2));
        due.throwing("put(-1, 0)", BOUNDS, () -> x.put(-1, 0));
        for (int place = 0; place < 10; place++) {
            due.is("put, one more", x.put(place, 1), NONE);
        }
        due.is("put", x.put(9, 0), 1);
        due.is("put", x.put(9, 1), 0);
        due.is("OPS of PROGRAM", x.count(3), 10);
        due.throwing("put(10, 0)", BOUNDS, () -> x.put(10, 0));
        x.ticks(3);
        x.put(0, 0);
        due.is("BOOT", x.guest(true, 0), 0);
        x.ticks(2);
        due.is("R", x.guest(true, 1), 3);
    }

    // Promises 26, 27, 28
    private void leaksAndTraps() {
        GuestView x = Due.with(EIGHT + ";program 0 0");
        Due.law(x, "cost 2 if op < 1");
        due.is("leaks", x.leaks(), NONE);
        due.is("traps", x.traps(60), 60);
        due.is("traps", x.traps(0), 0);
        due.is("depth", x.depth(3, 2), 3 + 2 * 3 * 3);
        due.is("depth", x.depth(60, 0), 60);
        due.is("depth", x.depth(0, 5), 0);
        due.is("nothing stays", x.guest(true, 4), 0);
        x.ticks(1);
        due.is("from BOOT on", x.depth(2, 5), 2 + 5 * 2 * 3);
        due.is("nothing stays", x.guest(true, 0), 1);
        GuestView y = Due.with(EIGHT + ";program 2 0 2 3");
        due.is("leaks", y.leaks(), NONE);
        y.put(1, 1);
        due.is("leaks", y.leaks(), 4);
        due.is("traps", y.traps(60), 1);
        due.is("traps", y.traps(1), 0);
        due.is("depth", y.depth(60, 5), 4 + 5);
        due.is("an alarm does not matter", y.alarm(100), 0);
        due.is("leaks", y.leaks(), 4);
        due.is("PROGRAM without", Due.with(EIGHT).leaks(), NONE);
        y.put(3, 2);
        due.is("an alarm does not matter", y.traps(60), 1);
        due.throwing("traps(61)", ARGUMENT, () -> y.traps(61));
        due.throwing("traps(-1)", ARGUMENT, () -> y.traps(-1));
        due.throwing("depth(61, 0)", ARGUMENT, () -> y.depth(61, 0));
        due.throwing("depth(-1, 0)", ARGUMENT, () -> y.depth(-1, 0));
        due.throwing("depth(0, 6)", ARGUMENT, () -> y.depth(0, 6));
        due.throwing("depth(0, -1)", ARGUMENT, () -> y.depth(0, -1));
    }

    // Promise 30
    private void proofs() {
        GuestView four = Due.with("op guarded rise;op time;cost 0;program 0 0 0 1");
        Due.law(four, "cost 1 if uses > 2");
        due.is("four OPS leak", four.leaks(), 4);
        due.is("three do not", four.proof(), NONE);
        GuestView x = Due.with(EIGHT + ";program 2 2");
        due.is("who", x.proof(), 1004);
        x.patch(3, true);
        due.is("move", x.proof(), 1005);
        x.patch(4, true);
        due.is("where", x.proof(), 1006);
        x.patch(5, true);
        due.is("drop, then time", x.proof(), 2017);
        x.cost(0);
        due.is("none", x.proof(), NONE);
        Due.law(x, "cost 1 if uses > 1");
        due.is("drop, time, drop: uses of the PROGRAM tried", x.proof(), 3171);
        due.is("PROGRAM stays", x.count(3), 2);
        due.is("PROGRAM stays", x.program(0), 2);
        due.is("uses stay", x.op(2, 8), 1);
    }

    // Promises 31, 32
    private void clashes() {
        GuestView x = Due.with(SAVERS);
        int[][] clash = {{0, 1, 1, 0, 0}, {1, 0, 1, 0, 0}, {1, 1, 0, 0, 0}, {0, 0, 0, 0, 1}, {0, 0, 0, 1, 0}};
        for (int op = 0; op < 5; op++) {
            for (int other = 0; other < 5; other++) {
                if (op != other) {
                    due.is("clash(" + op + ", " + other + ")", x.clash(op, other), clash[op][other] == 1);
                }
            }
        }
        due.is("beside", x.beside(), 1 + 8);
        due.is("loads do not CLASH", Due.with("op load 1;op load 1;op save 2").beside(), 7);
        due.throwing("clash(5, 5)", BOUNDS, () -> x.clash(5, 5) ? 1 : 0);
        due.throwing("clash(0, 5)", BOUNDS, () -> x.clash(0, 5) ? 1 : 0);
        due.throwing("clash(-1, 0)", BOUNDS, () -> x.clash(-1, 0) ? 1 : 0);
        due.throwing("clash(2, 2)", ARGUMENT, () -> x.clash(2, 2) ? 1 : 0);
    }

    // Promises 34, 35, 36
    private void rows() {
        GuestView x = Due.with(EIGHT);
        due.is("one row may be wrong", Due.asked(x, 0, 0, 2), 255);
        due.is("two rows", Due.asked(x, 0, 0, 2, 1, 1), 1 + 2 + 128);
        due.is("none told", Due.asked(x, 0), 255);
        due.is("three rows", Due.asked(x, 0, 2, 1, 1, 1, 6, 5), 1 + 16);
        due.is("MODAL, LOCAL, TIMED", Due.asked(x, 0, 3, 1, 4, 1, 5, 1), 0);
        due.is("MODAL and KIND", Due.asked(x, 0, 3, 1, 6, 7, 0, 1), 8);
        due.is("LOCAL and KIND", Due.asked(x, 0, 4, 1, 6, 6, 0, 1), 32);
        due.is("TIMED and KIND", Due.asked(x, 0, 5, 1, 6, 8, 0, 1), 64);
        due.is("likely", Due.asked(x, 1, 0, 2), 7);
        due.is("likely, the least", Due.asked(x, 1, 0, 2, 1, 1), 0);
        due.is("likely, none told", Due.asked(x, 1), 0);
        due.is("likely, a later one of none wrong", Due.asked(x, 1, 1, 1, 6, 3), 1);
        due.is("likely, each of one wrong", Due.asked(x, 1, 3, 1, 6, 8), 3);
        due.is("likely, one wrong ahead of two", Due.asked(x, 1, 3, 1, 6, 8, 5, 1), 6);
        due.is("likely, two wrong of each", Due.asked(x, 1, 3, 1, 4, 1, 5, 1), NONE);
        due.is("likely, three wrong and more", Due.asked(x, 1, 3, 1, 4, 1, 5, 1, 0, 2), NONE);
        due.is("likely, 20 rows wrong", Due.asked(x, 1, new int[40]), NONE);
        due.is("likely without OPS", Due.asked(new GuestView(), 1), NONE);
        due.is("ask", Due.asked(x, 2, 0, 2, 1, 1), 6);
        due.is("ask, none told: KIND", Due.asked(x, 2), 6);
        due.is("ask, one alone", Due.asked(x, 2, 3, 1, 6, 7, 0, 1), NONE);
        due.is("ask, the least of several", Due.asked(Due.with("op add 1;op guarded add 1 add 1"), 2), 0);
        due.is("ask by GUARDED", Due.asked(Due.with("op add 1;op guarded add 1"), 2), 1);
        due.is("ask in vain", Due.asked(Due.with("op add 1;op add 1"), 2), 0);
        int[] forty = new int[40];
        due.is("40 bytes: micros is never 0", Due.asked(x, 0, forty), 0);
        for (int call = 0; call < 3; call++) {
            int c = call;
            due.throwing("42 bytes", ARGUMENT, () -> Due.asked(x, c, new int[42]));
            due.throwing("odd", ARGUMENT, () -> Due.asked(x, c, 0));
            due.throwing("what 7", ARGUMENT, () -> Due.asked(x, c, 0, 1, 7, 0));
            due.is("used up", x.end(1), false);
            due.throwing("how much 11", ARGUMENT, () -> Due.asked(x, c, 0, 11));
            due.throwing("how much 255", ARGUMENT, () -> Due.asked(x, c, 0, 255));
        }
        due.is("it is no text", x.fault(), NONE);
    }

    // Promises 37, 38
    private void turns() {
        String[] cells = {"0", "0 0 0 0 0 0 0 3", "3 0 0 0 0 0 0 0", "1 3", "3 0 0 0 0 0 0 3", "2 3 1"};
        int[] leads = {0, 3, 3, 2, 0, 0};
        int[] sides = {0, 1, 0, 1, 0, 0};
        for (int i = 0; i < cells.length; i++) {
            GuestView x = Due.with("cells " + cells[i]);
            due.is("lead of " + cells[i], x.lead(), leads[i]);
            due.is("side of " + cells[i], x.side(), sides[i]);
        }
    }

    // Promises 39, 43
    private void pairsAndTwins() {
        GuestView x = Due.with(SAVERS);
        int[] with = {NONE, 3, 4, 1, 2};
        due.is("pairs", x.pairs(NONE), 5);
        for (int op = 0; op < 5; op++) {
            due.is("pairs(" + op + ")", x.pairs(op), with[op]);
        }
        due.throwing("pairs(5)", BOUNDS, () -> x.pairs(5));
        due.throwing("pairs(-2)", BOUNDS, () -> x.pairs(-2));
        GuestView heavy = Due.with("op add 1;op add 1 add 1;op add 1 add 1 add 1");
        due.is("the heavier two", heavy.pairs(NONE), 5);
        due.is("none", heavy.pairs(0), NONE);
        due.is("with", heavy.pairs(2), 1);
        due.is("one alone", Due.with("op add 1").pairs(0), NONE);
        due.is("twins", x.twins(), 1);
        x.guard(2, true);
        due.is("twins, GUARDED unlike", x.twins(), 0);
        x.guard(0, true);
        x.patch(0, true);
        due.is("twins, PATCHED does not matter", x.twins(), 1);
        due.is("twins", Due.with("op add 1;op add 5;op add 1 rise;op rise add 1;op add 1;op add 1").twins(), 3);
    }

    // Promise 40
    private void restsOfLaw() {
        GuestView x = Due.with(EIGHT);
        due.is("without blame it is done and watched", x.rests(0), 1);
        Due.law(x, "blame 1 if op < 1");
        due.is("with blame neither rests", x.rests(0), 0);
        due.is("another one", x.rests(1), 1);
        due.throwing("rests(8)", BOUNDS, () -> x.rests(8));
        due.throwing("rests(-1)", BOUNDS, () -> x.rests(-1));
    }

    // Promise 41
    private void oddsOfAlarms() {
        GuestView x = Due.with("alarm 30");
        due.is("odds", x.odds(2, 1), 5100);
        due.is("odds", x.odds(3, 2), 2160);
        due.is("odds, rounded down", x.odds(5, 5), 24);
        due.is("odds", x.odds(1, 1), 3000);
        due.is("odds", x.odds(0, 0), 10000);
        due.is("odds", x.odds(5, 0), 10000);
        due.is("odds", x.odds(2, 3), 0);
        x.alarm(100);
        due.is("odds", x.odds(5, 5), 10000);
        x.alarm(0);
        due.is("odds", x.odds(5, 1), 0);
        due.throwing("odds(6, 0)", ARGUMENT, () -> x.odds(6, 0));
        due.throwing("odds(-1, 0)", ARGUMENT, () -> x.odds(-1, 0));
        due.throwing("odds(0, 6)", ARGUMENT, () -> x.odds(0, 6));
        due.throwing("odds(0, -1)", ARGUMENT, () -> x.odds(0, -1));
    }

    // Promise 42
    private void mostOf() {
        GuestView x = Due.with(EIGHT + ";program 5 2 5 2 1");
        due.is("LONGEST", x.most(0), 7);
        due.is("DEAREST, the least of several", x.most(1), 0);
        due.is("MOST USED, the least of several", x.most(2), 2);
        Due.law(x, "cost 4 if op > 2 and op < 5;cost 1 if op > 3 and op < 5");
        due.is("DEAREST", x.most(1), 4);
        x.put(4, 5);
        due.is("MOST USED", x.most(2), 5);
        due.throwing("most(3)", ELEMENT, () -> x.most(3));
        due.throwing("most(-1)", ELEMENT, () -> x.most(-1));
    }

    // Promises 44, 45, 46
    private void aheadAndTrials() {
        GuestView x = Due.with("op guarded drop;op add 1;op skip 1;program 1 2 1 0 0;alarm 39;vector 2");
        due.is("ahead by 0", x.ahead(0, true), 0);
        due.is("ahead without alarms", x.ahead(1, true), 1);
        due.is("ahead, a SKIP", x.ahead(2, false), 3);
        due.is("ahead, a trap", x.ahead(4, true), 2);
        due.is("nothing stays", x.guest(true, 0), 0);
        due.is("no DRAWS", x.seed(1), 1);
        // From SEED 1: 38 an alarm to 2, 58 add, 13 15 alarms, 51 add, 27 an alarm.
        due.is("trial", x.trial(6, false), 0);
        due.is("trial of views", x.trial(6, true), 1);
        due.is("SEED stays", x.seed(1), 1);
        due.is("THE LOG stays", x.count(10), 0);
        due.is("TICK stays", x.count(8), 0);
        x.alarm(0);
        due.is("trial: drop twice of four", x.trial(4, false), 2);
        due.is("PURSE stays", x.count(9), 0);
        due.is("trial by 0", x.trial(0, false), 0);
        due.is("span", x.span(4, false), 2);
        due.is("span", x.span(4, true), 2);
        GuestView y = Due.with("op who;program 0");
        due.is("trial of views", y.trial(1, true), 0);
        due.is("trial of views", y.trial(0, true), 1);
        due.is("ahead of one HALTED", y.ahead(60, true), 1);
        // SEED 1 to 6: the first draws modulo 100 are 38 8 47 17 55 26.
        GuestView z = Due.with("op guarded rise;program 0;alarm 9;vector 9;purse 7");
        due.is("span, an alarm from SEED 2", z.span(1, false), 7);
        due.is("span, none from others", z.span(1, true), 8);
        due.is("span by 0", z.span(0, true), 7);
        z.alarm(8);
        due.is("span, no alarm", z.span(1, false), 8);
        z.alarm(47);
        due.is("span, none from SEED 3", z.span(1, true), 8);
        z.alarm(56);
        due.is("span, an alarm from each", z.span(1, true), 7);
        due.throwing("ahead(61)", ARGUMENT, () -> z.ahead(61, true));
        due.throwing("ahead(-1)", ARGUMENT, () -> z.ahead(-1, false));
        due.throwing("trial(61)", ARGUMENT, () -> z.trial(61, true));
        due.throwing("trial(-1)", ARGUMENT, () -> z.trial(-1, false));
        due.throwing("span(61)", ARGUMENT, () -> z.span(61, true));
        due.throwing("span(-1)", ARGUMENT, () -> z.span(-1, false));
    }

    // Promises 47, 48
    private void logs() {
        GuestView x = Due.with("op guarded drop;op rise who;program 1 0 0");
        // rise who: an ESCAPE; R is 1 on both. drop: EMULATED. drop: REFLECTED, to 0. Then again.
        x.ticks(4);
        int[][] rows = {{0, 1, 2, 0}, {1, 0, 1, 1}, {2, 0, 0, 2}, {3, 1, 2, 0}};
        for (int i = 0; i < 4; i++) {
            for (int what = 0; what < 4; what++) {
                due.is("log of " + i + ", " + what, x.log(3 - i, what), rows[i][what]);
            }
        }
        due.is("rows", x.count(10), 4);
        due.is("log(4)", x.log(4, 0), -2);
        due.is("log(-1)", x.log(-1, 0), -2);
        due.is("led", x.led(0, false), 2);
        due.is("led", x.led(0, true), 2);
        due.is("led", x.led(1, false), 2);
        due.is("led", x.led(1, true), 3);
        due.throwing("log(9, 4)", ELEMENT, () -> x.log(9, 4));
        due.throwing("log(0, -1)", ELEMENT, () -> x.log(0, -1));
        due.throwing("led(2)", BOUNDS, () -> x.led(2, false));
        due.throwing("led(-1)", BOUNDS, () -> x.led(-1, true));
        // who rise: an ESCAPE first, then that VIEWS are unlike, of one TICK.
        GuestView y = Due.with("op add 1;op who rise;program 0 1 1");
        y.ticks(3);
        due.is("rows", y.count(10), 3);
        int[][] due2 = {{1, 1, 2, 1}, {1, 1, 3, 1}, {2, 1, 2, 2}};
        for (int i = 0; i < 3; i++) {
            for (int what = 0; what < 4; what++) {
                due.is("log of " + i + ", " + what, y.log(2 - i, what), due2[i][what]);
            }
        }
        due.is("led", y.led(1, false), 3);
        due.is("led of none", y.led(0, false), 0);
        due.is("led of none", y.led(0, true), NONE);
    }

    // Promise 50
    private void undone() {
        GuestView x = Due.with(EIGHT + ";program 2 0 0");
        due.is("none", x.undo(), false);
        x.ticks(2);
        x.ticks(1);
        due.is("acts", x.count(11), 2);
        x.seed(77);
        due.is("undo", x.undo(), true);
        due.is("TICK", x.count(8), 2);
        due.is("PURSE", x.count(9), 1);
        due.is("PC", x.guest(true, 0), 2);
        due.is("rows", x.count(10), 1);
        due.is("SEED as ahead of it", x.seed(5) != 77, true);
        due.is("undo", x.undo(), true);
        due.is("PC", x.guest(true, 0), 0);
        due.is("SEED", x.seed(1), 1);
        due.is("none", x.undo(), false);
        x.ticks(2);
        x.boot();
        x.patch(3, true);
        x.guard(4, true);
        x.put(0, 7);
        x.store(2, 3);
        x.vector(8);
        x.shift(0);
        x.cost(6);
        x.alarm(9);
        due.is("acts", x.count(11), 10);
        int[] left = {9, 8, 7, 6, 5, 4, 3, 2, 1, 0};
        for (int n = 0; n < 10; n++) {
            due.is("undo", x.undo(), true);
            due.is("acts", x.count(11), left[n]);
            due.is("ALARM", x.count(7), 0);
            due.is("COST", x.count(6), n >= 1 ? 1 : 6);
            due.is("SHIFT", x.count(5), n >= 2 ? 1 : 0);
            due.is("VECTOR", x.count(4), n >= 3 ? 0 : 8);
            due.is("CELL", x.cell(2), n >= 4 ? 0 : 3);
            due.is("PROGRAM", x.program(0), n >= 5 ? 2 : 7);
            due.is("GUARDED", x.op(4, 1), n >= 6 ? 0 : 1);
            due.is("PATCHED", x.op(3, 2), n >= 7 ? 0 : 1);
            due.is("PC", x.guest(true, 0), n == 8 ? 2 : 0);
            due.is("TICK", x.count(8), n >= 9 ? 0 : 2);
        }
        for (int n = 0; n < 13; n++) {
            x.store(0, n % 4);
        }
        due.is("twelve", x.count(11), 12);
        for (int n = 11; n >= 0; n--) {
            due.is("undo", x.undo(), true);
            due.is("CELL", x.cell(0), n % 4);
        }
        due.is("the thirteenth", x.undo(), false);
        x.boot();
        due.wrongBench(x, "fly", 0);
        due.is("a wrong text is none", x.count(11), 1);
        due.is("fault stays", x.undo(), true);
        due.is("fault stays", x.fault(), 0);
        x.boot();
        Due.bench(x, "");
        due.is("a text", x.undo(), false);
        x.feed(0, 0, 0, 0, 0);
        x.patch(0, false);
        x.undo();
        due.is("the TAPE stays", x.end(20), true);
    }

    // Promises 51, 52
    private void images() {
        GuestView x = Due.with(EIGHT + ";program 0 0;purse 5");
        Due.law(x, "worth 2");
        x.ticks(3);
        x.image();
        due.is("acts stay", x.count(11), 1);
        x.ticks(1);
        x.guard(0, false);
        Due.bench(x, "program 1;purse 8");
        Due.law(x, "worth 4;worth 5");
        x.boot();
        x.seed(9);
        due.wrongLaw(x, "tax", 0);
        x.feed(0, 0, 0, 0, 0);
        due.is("back", x.back(), true);
        due.is("none are remembered", x.count(11), 0);
        due.is("none are remembered", x.undo(), false);
        due.is("texts", x.count(1), 1);
        due.is("LINES", x.count(2), 1);
        due.is("WORTH", x.op(0, 10), 3);
        due.is("TICK", x.count(8), 3);
        due.is("PURSE", x.count(9), 5 + 9);
        due.is("rows", x.count(10), 3);
        due.is("PC", x.guest(true, 0), 1);
        due.is("PROGRAM", x.count(3), 2);
        due.is("GUARDED", x.op(0, 1), 1);
        due.is("fault stays", x.fault(), 0);
        due.is("the TAPE stays", x.end(20), true);
        due.is("SEED", x.seed(0) != 9, true);
        x.boot();
        due.is("back again", x.back(), true);
        due.is("PC", x.guest(true, 0), 1);
        GuestView y = new GuestView();
        y.image();
        Due.bench(y, "op who");
        due.is("MODAL", y.op(0, 4), 1);
        Due.law(y, "cost 1");
        y.back();
        due.is("OPS", y.count(0), 0);
        due.is("LINES", y.count(2), NONE);
        Due.bench(y, "op where");
        due.is("another OP 0", y.op(0, 4), 0);
        due.is("another OP 0", y.op(0, 5), 1);
    }
}
