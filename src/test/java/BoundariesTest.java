import java.util.NoSuchElementException;

/** Each sentence of the document that names a boundary of numbers, machine, guests or log: at it, and one beyond it. */
public final class BoundariesTest {
    private static final Class<?> BOUNDS = IndexOutOfBoundsException.class;
    private static final Class<?> ARGUMENT = IllegalArgumentException.class;
    private static final Class<?> ELEMENT = NoSuchElementException.class;
    private static final int NONE = GuestView.NONE;
    private static final int NO_ROW = -2;

    // Seeds with which the first DRAW modulo 100 is this.
    private static final int SEED_OF_0 = 132;
    private static final int SEED_OF_99 = 194;

    private final Due due = new Due();

    /** A call with a number. */
    private interface Use {
        long of(GuestView x, int n);
    }

    public static void main(String[] args) {
        BoundariesTest test = new BoundariesTest();
        test.opsInRange();
        test.whatsInRange();
        test.settingsInRange();
        test.stepsInRange();
        test.numbersThatTellNone();
        test.atFirst();
        test.noOpsAtAll();
        test.firstException();
        test.lastCall();
        test.wrapOfR();
        test.wrapOfCells();
        test.skipsAndQuiet();
        test.patterns();
        test.lastStates();
        test.witnessesOfRange();
        test.sensitiveOps();
        test.halted();
        test.farthestPc();
        test.clockGoesRound();
        test.virtualBase();
        test.ownCells();
        test.reflectedOrNot();
        test.escapes();
        test.viewsOfOne();
        test.drawsAtAlarm();
        test.seedsGoRound();
        test.alarmsOfHalted();
        test.tickAtMost();
        test.purseAtMost();
        test.sixtyRows();
        test.orderOfOneTick();
        test.noRows();
        test.lastLeak();
        test.trapsOfHalted();
        test.proofOfThree();
        test.clashesOfN();
        test.besideOfSeveral();
        test.turnsOfLikeCells();
        test.pairsOfNone();
        test.restsWithoutMore();
        test.oddsRoundedDown();
        test.mostOfSeveral();
        test.twinsOfGuards();
        test.sharesRoundedDown();
        test.seedsOfSpan();
        test.tenPlaces();
        test.actsThatChangeNothing();
        test.eachActUndone();
        test.registersKept();
        test.twelveActs();
        test.noneRemembered();
        test.oneImage();
        test.lawsOfTraits();
        test.due.finish();
    }

    /** Two of each three STEPS are traps: drop EMULATED, add, drop REFLECTED; by now there were seven, the last EMULATED. */
    private static GuestView rich() {
        GuestView x = Due.with("op guarded drop;op add 1 add 2;op who skip 1;op save 1 load 1;program 0 1 0 3"
            + ";cells 1 2 3 0 0 0 0 1;vector 0;shift 1;cost 2;alarm 0;purse 5");
        Due.law(x, "cost 1 if op<1;blame 2;worth 3 if guarded");
        x.patch(2, true);
        x.image();
        x.ticks(7);
        x.feed(1, 2, 3, 4, 5);
        return x;
    }

    /** From least to most it answers; beyond these it throws, and nothing has changed. */
    private void range(String call, int least, int most, Class<?> thrown, Use use, long atLeast, long atMost) {
        due.is(call + " of " + least, use.of(rich(), least), atLeast);
        due.is(call + " of " + most, use.of(rich(), most), atMost);
        for (int n : new int[] {least - 1, most + 1, Integer.MIN_VALUE, Integer.MAX_VALUE}) {
            GuestView x = rich();
            String before = Due.seen(x);
            due.throwing(call + " of " + n, thrown, () -> use.of(x, n));
            due.is("nothing has changed by " + call + " of " + n, Due.seen(x), before);
            due.is("no byte more", x.end(21), false);
            due.is("no byte fewer", x.end(20), true);
            due.is("fault stays", x.fault(), NONE);
        }
    }

    private static long bit(boolean is) {
        return is ? 1 : 0;
    }

    // IndexOutOfBoundsException: there is no such OP
    private void opsInRange() {
        range("op", 0, 3, BOUNDS, (x, n) -> x.op(n, 0), 1, 2);
        range("micro", 0, 3, BOUNDS, (x, n) -> x.micro(n, 0, false), 4, 2);
        range("micro without", 0, 3, BOUNDS, (x, n) -> x.micro(n, 9, true), NONE, NONE);
        range("witness", 0, 3, BOUNDS, (x, n) -> x.witness(n, 0), 4, NONE);
        range("done", 0, 3, BOUNDS, (x, n) -> x.done(n, 4, 2), 0, 1);
        range("patch", 0, 3, BOUNDS, (x, n) -> bit(x.patch(n, true)), 1, 1);
        range("patch off", 0, 3, BOUNDS, (x, n) -> bit(x.patch(n, false)), 0, 0);
        range("guard", 0, 3, BOUNDS, (x, n) -> bit(x.guard(n, true)), 0, 1);
        range("guard off", 0, 3, BOUNDS, (x, n) -> bit(x.guard(n, false)), 1, 0);
        range("put", 0, 3, BOUNDS, (x, n) -> x.put(1, n), 1, 1);
        range("clash", 0, 3, BOUNDS, (x, n) -> bit(x.clash(n, 1)), 0, 0);
        range("clash with", 0, 3, BOUNDS, (x, n) -> bit(x.clash(1, n)), 0, 0);
        range("rests", 0, 3, BOUNDS, (x, n) -> x.rests(n), 0, 0);
        range("led", 0, 3, BOUNDS, (x, n) -> x.led(n, false), 5, 0);
        range("led, TICK", 0, 3, BOUNDS, (x, n) -> x.led(n, true), 6, NONE);
        range("pairs, from NONE on", NONE, 3, BOUNDS, (x, n) -> x.pairs(n), 7, 2);
        range("pairs, OP 0", NONE, 3, BOUNDS, (x, n) -> x.pairs(n == NONE ? 0 : n), 1, 2);
    }

    // NoSuchElementException: another what
    private void whatsInRange() {
        range("op", 0, 12, ELEMENT, (x, n) -> x.op(0, n), 1, 50);
        range("witness", 0, 3, ELEMENT, (x, n) -> x.witness(2, n), NONE, NONE);
        range("witness", 0, 3, ELEMENT, (x, n) -> x.witness(0, n), 4, NONE);
        range("done", 0, 12, ELEMENT, (x, n) -> x.done(1, 511, n), 0, 0);
        range("done that TRAPS", 0, 12, ELEMENT, (x, n) -> x.done(0, 0, n), 1, NONE);
        range("guest, BARE", 0, 13, ELEMENT, (x, n) -> x.guest(false, n), 1, 1);
        range("guest, HOSTED", 0, 13, ELEMENT, (x, n) -> x.guest(true, n), 1, 1);
        range("most", 0, 2, ELEMENT, (x, n) -> x.most(n), 1, 0);
        range("log", 0, 3, ELEMENT, (x, n) -> x.log(0, n), 6, 0);
        range("log without", 0, 3, ELEMENT, (x, n) -> x.log(60, n), NO_ROW, NO_ROW);
    }

    // IllegalArgumentException: a number is none; IndexOutOfBoundsException: there is no such CELL, place
    private void settingsInRange() {
        range("STATE", 0, 511, ARGUMENT, (x, n) -> x.done(2, n, 1), 0, 1);
        range("cell", 0, 7, BOUNDS, (x, n) -> x.cell(n), 1, 1);
        range("store of a CELL", 0, 7, BOUNDS, (x, n) -> x.store(n, 2), 1, 1);
        range("store", 0, 3, ARGUMENT, (x, n) -> x.store(1, n), 2, 2);
        range("vector", 0, 9, ARGUMENT, GuestView::vector, 0, 0);
        range("shift", 0, 3, ARGUMENT, GuestView::shift, 1, 1);
        range("cost", 0, 7, ARGUMENT, GuestView::cost, 2, 2);
        range("alarm", 0, 100, ARGUMENT, GuestView::alarm, 0, 0);
        range("a place", 0, 4, BOUNDS, (x, n) -> x.put(n, 1), 0, NONE);
        range("what store told", 0, 3, ARGUMENT, (x, n) -> x.store(7, n) * 10 + x.cell(7), 10, 13);
        range("what vector told", 0, 9, ARGUMENT, (x, n) -> x.vector(n) * 10 + x.count(4), 0, 9);
        range("what shift told", 0, 3, ARGUMENT, (x, n) -> x.shift(n) * 10 + x.count(5), 10, 13);
        range("what cost told", 0, 7, ARGUMENT, (x, n) -> x.cost(n) * 10 + x.count(6), 20, 27);
        range("what alarm told", 0, 100, ARGUMENT, (x, n) -> x.alarm(n) * 10 + x.count(7), 0, 100);
    }

    // N (0 to 60), TICKS 1 to 60, D and K 0 to 5
    private void stepsInRange() {
        range("ticks", 1, 60, ARGUMENT, GuestView::ticks, 0, 40);
        range("TICK by ticks", 1, 60, ARGUMENT, (x, n) -> x.ticks(n) * 1000 + x.count(8), 8, 40067);
        range("traps", 0, 60, ARGUMENT, GuestView::traps, 0, 40);
        range("depth of N", 0, 60, ARGUMENT, (x, n) -> x.depth(n, 5), 0, 60 + 40 * 3 * 5);
        range("depth of D", 0, 5, ARGUMENT, (x, n) -> x.depth(60, n), 60, 60 + 40 * 3 * 5);
        range("odds of N", 0, 5, ARGUMENT, (x, n) -> x.odds(n, 0), 10000, 10000);
        range("odds of K", 0, 5, ARGUMENT, (x, n) -> x.odds(5, n), 10000, 0);
        range("ahead, HOSTED", 0, 60, ARGUMENT, (x, n) -> x.ahead(n, true), 1, 1);
        range("ahead, BARE", 0, 60, ARGUMENT, (x, n) -> x.ahead(n, false), 1, 1);
        range("trial", 0, 60, ARGUMENT, (x, n) -> x.trial(n, false), 25, 25 + 160);
        range("trial of VIEWS", 0, 60, ARGUMENT, (x, n) -> x.trial(n, true), 1, 1);
        range("span, the least", 0, 60, ARGUMENT, (x, n) -> x.span(n, false), 25, 25 + 160);
        range("span, the greatest", 0, 60, ARGUMENT, (x, n) -> x.span(n, true), 25, 25 + 160);
    }

    // NONE for another what; the k-th, NONE; so many ago, - 2 without
    private void numbersThatTellNone() {
        GuestView x = rich();
        int[] counts = {4, 1, 3, 4, 0, 1, 2, 0, 7, 25, 5, 2};
        for (int what = 0; what < 12; what++) {
            due.is("count(" + what + ")", x.count(what), counts[what]);
        }
        for (int n : new int[] {-1, 12, Integer.MIN_VALUE, Integer.MAX_VALUE}) {
            due.is("count(" + n + ")", x.count(n), NONE);
            due.is("program(" + n + ")", x.program(n), NONE);
            due.is("micro(0, " + n + ")", x.micro(0, n, false), NONE);
            due.is("log(" + n + ")", x.log(n, 0), NO_ROW);
            due.is("log(" + n + "), the OP", x.log(n, 1), NO_ROW);
        }
        due.is("program(3), the last", x.program(3), 3);
        due.is("program(4)", x.program(4), NONE);
        due.is("micro(3, 1), the last", x.micro(3, 1, false), 1);
        due.is("micro(3, 2)", x.micro(3, 2, false), NONE);
        due.is("log(4), the oldest", x.log(4, 0), 0);
        due.is("log(5)", x.log(5, 0), NO_ROW);
    }

    // (none at first), (0 at first), (2 at first; told as its half), (1 at first), (not at first)
    private void atFirst() {
        GuestView x = new GuestView();
        int[] counts = {0, 0, NONE, 0, 0, 1, 1, 0, 0, 0, 0, 0};
        for (int what = 0; what < 12; what++) {
            due.is("count(" + what + ")", x.count(what), counts[what]);
        }
        for (int what = 0; what <= 13; what++) {
            int want = what == 2 || what == 5 ? 1 : 0;
            due.is("BARE, what " + what, x.guest(false, what), want);
            due.is("HOSTED, what " + what, x.guest(true, what), want);
        }
        for (int cell = 0; cell < 8; cell++) {
            due.is("FIRST CELL", x.cell(cell), 0);
        }
        due.is("PROGRAM", x.program(0), NONE);
        due.is("SEED", x.seed(1), 1);
        due.is("fault", x.fault(), NONE);
        due.is("TAPE", x.end(1), false);
        due.is("VECTOR", x.vector(0), 0);
        due.is("half of SHIFT", x.shift(1), 1);
        due.is("COST", x.cost(1), 1);
        due.is("ALARM", x.alarm(0), 0);
        due.is("PATCHED", Due.with("op guarded rise").op(0, 2), 0);
    }

    // A bench without OPS
    private void noOpsAtAll() {
        GuestView x = new GuestView();
        for (int n = -1; n <= 0; n++) {
            int op = n;
            due.throwing("op", BOUNDS, () -> x.op(op, 0));
            due.throwing("micro", BOUNDS, () -> x.micro(op, 0, true));
            due.throwing("witness", BOUNDS, () -> x.witness(op, 0));
            due.throwing("done", BOUNDS, () -> x.done(op, 0, 0));
            due.throwing("patch", BOUNDS, () -> bit(x.patch(op, true)));
            due.throwing("guard", BOUNDS, () -> bit(x.guard(op, true)));
            due.throwing("put", BOUNDS, () -> x.put(0, op));
            due.throwing("clash", BOUNDS, () -> bit(x.clash(op, op + 1)));
            due.throwing("rests", BOUNDS, () -> x.rests(op));
            due.throwing("led", BOUNDS, () -> x.led(op, false));
        }
        due.throwing("pairs", BOUNDS, () -> x.pairs(0));
        due.is("pairs", x.pairs(NONE), 0);
        due.is("hostable", x.hostable(), true);
        due.is("open", x.open(), 0);
        due.is("least", x.least(), 0);
        due.is("leaks", x.leaks(), NONE);
        due.is("proof", x.proof(), NONE);
        due.is("beside", x.beside(), 0);
        due.is("twins", x.twins(), 0);
        due.is("most", x.most(0) + x.most(1) + x.most(2), 3 * NONE);
        due.is("traps", x.traps(60), 0);
        due.is("depth", x.depth(60, 5), 0);
        due.is("ahead", x.ahead(60, true), 0);
        due.is("trial", x.trial(60, true), 1);
        due.is("span", x.span(60, true), 0);
        due.is("acts of what threw", x.count(11), 0);
    }

    // Of several exceptions the one told first is thrown
    private void firstException() {
        GuestView x = rich();
        due.throwing("op: both", BOUNDS, () -> x.op(4, 13));
        due.throwing("witness: both", BOUNDS, () -> x.witness(4, 4));
        due.throwing("done: all three", BOUNDS, () -> x.done(4, 512, 13));
        due.throwing("done: OP and STATE", BOUNDS, () -> x.done(-1, -1, 0));
        due.throwing("done: OP and what", BOUNDS, () -> x.done(4, 0, 13));
        due.throwing("done: STATE and what", ARGUMENT, () -> x.done(0, 512, 13));
        due.throwing("store: both", BOUNDS, () -> x.store(8, 4));
        due.throwing("clash: one that there is not, and it again", BOUNDS, () -> bit(x.clash(4, 4)));
        due.throwing("clash: both are one", ARGUMENT, () -> bit(x.clash(3, 3)));
        due.throwing("put: both", BOUNDS, () -> x.put(5, 4));
    }

    // An object is used for at most 512 calls
    private void lastCall() {
        GuestView x = new GuestView();
        x.feed(0x6f702077, 0x686f3b70, 0x726f6772, 0x616d2030, 0);
        x.end(16);
        x.bench();
        for (int call = 3; call < 511; call++) {
            due.is("call " + (call + 1), call % 2 == 0 ? x.proof() : x.leaks(), call % 2 == 0 ? 1001 : 1);
        }
        due.is("the 512th call", x.span(60, true), 0);
    }

    // R is R and N, modulo 4; MODE, BASE and CLOCK as MICROS put them into R
    private void wrapOfR() {
        GuestView x = Due.with("op add 1;op add 7;op add 4;op add 3 add 3 add 3;op move;op where;op who;op time");
        int[] one = {1, 2, 3, 0};
        int[] seven = {3, 0, 1, 2};
        int[] nine = {1, 2, 3, 0};
        for (int r = 0; r < 4; r++) {
            due.is("add 1 to " + r, x.done(0, r, 1), one[r]);
            due.is("add 7 to " + r, x.done(1, r, 1), seven[r]);
            due.is("add 4 to " + r, x.done(2, r, 1), r);
            due.is("three times 3 to " + r, x.done(3, r, 1), nine[r]);
            due.is("move of " + r, x.done(4, r, 3), 2 * r);
            due.is("where at BASE " + 2 * r, x.done(5, 8 * r, 1), r);
            due.is("where leaves BASE", x.done(5, 8 * r, 3), 2 * r);
            due.is("time", x.done(7, r, 1), 0);
        }
        due.is("who in user mode", x.done(6, 3, 1), 0);
        due.is("who in supervisor mode", x.done(6, 7, 1), 1);
    }

    // the CELL (N and BASE, modulo 8)
    private void wrapOfCells() {
        GuestView x = Due.with("op load 0;op load 7;op load 2;op save 0;op save 7;op save 2");
        // PATTERN 13 (A 1, B 3): CELL k is k + 3; R 2.
        int state = 32 * 13 + 2;
        int[] loaded0 = {3, 1, 3, 1};
        int[] loaded7 = {2, 0, 2, 0};
        for (int base = 0; base < 4; base++) {
            due.is("load 0 at BASE " + 2 * base, x.done(0, state + 8 * base, 1), loaded0[base]);
            due.is("load 7 at BASE " + 2 * base, x.done(1, state + 8 * base, 1), loaded7[base]);
            due.is("load 2 at BASE " + 2 * base, x.done(2, state + 8 * base, 1), loaded0[(base + 1) % 4]);
        }
        // Which CELL differs from the pattern by a save (R 0 in all CELLS 1: PATTERN 4).
        int[] saves = {0, 7, 2};
        for (int op = 3; op < 6; op++) {
            for (int base = 0; base < 4; base++) {
                int into = (saves[op - 3] + 2 * base) % 8;
                for (int cell = 0; cell < 8; cell++) {
                    due.is("save at BASE " + 2 * base, x.done(op, 32 * 4 + 8 * base, 5 + cell), cell == into ? 0 : 1);
                }
            }
        }
    }

    // skip N: if R is N modulo 4; its MICROS behind that are done; quiet: if MODE is 0, nothing comes of those behind it
    private void skipsAndQuiet() {
        GuestView x = Due.with("op skip 7 add 1;op skip 4;op add 1 quiet add 1;op rise quiet add 1;op drop quiet add 1"
            + ";op quiet rise;op skip 0 quiet skip 1;op quiet quiet add 1");
        for (int r = 0; r < 4; r++) {
            due.is("skip 7 at R " + r, x.done(0, r, 4), r == 3 ? 1 : 0);
            due.is("add behind skip", x.done(0, r, 1), (r + 1) % 4);
            due.is("skip 4 at R " + r, x.done(1, r, 4), r == 0 ? 1 : 0);
            due.is("quiet, user", x.done(2, r, 1), (r + 1) % 4);
            due.is("quiet, supervisor", x.done(2, 4 + r, 1), (r + 2) % 4);
            due.is("rise ahead of quiet", x.done(3, r, 1), (r + 1) % 4);
            due.is("drop ahead of quiet", x.done(4, 4 + r, 1), r);
            due.is("quiet, then rise", x.done(5, r, 2), 0);
            due.is("skip ahead of quiet", x.done(6, r, 4), r == 0 ? 1 : 0);
            due.is("skip behind quiet", x.done(6, 4 + r, 4), r < 2 ? 1 : 0);
            due.is("quiet twice", x.done(7, 4 + r, 1), (r + 1) % 4);
        }
    }

    // STATES 0 to 511: CELL k is A times k and B, modulo 4
    private void patterns() {
        GuestView x = Due.with("op quiet");
        for (int pattern = 0; pattern < 16; pattern++) {
            for (int cell = 0; cell < 8; cell += 7) {
                int want = (pattern % 4 * cell + pattern / 4) % 4;
                due.is("CELL " + cell + " of PATTERN " + pattern, x.done(0, 32 * pattern, 5 + cell), want);
                due.is("CELL " + cell + " of PATTERN " + pattern, x.done(0, 32 * pattern + 31, 5 + cell), want);
            }
        }
        GuestView y = Due.with("op time;program 0 0 0 0");
        y.ticks(3);
        due.is("ahead", y.ahead(2, false), 4);
        due.is("CLOCK 0, whatever was tried ahead of it", y.done(0, 3, 1), 0);
        for (int state : new int[] {0, 3, 4, 7, 8, 24, 31, 32, 480, 511}) {
            due.is("R of " + state, x.done(0, state, 1), state % 4);
            due.is("MODE of " + state, x.done(0, state, 2), state / 4 % 2);
            due.is("BASE of " + state, x.done(0, state, 3), state / 8 % 4 * 2);
            due.is("TRAPS in " + state, x.done(0, state, 0), 0);
            due.is("SKIPS in " + state, x.done(0, state, 4), 0);
        }
    }

    // It TRAPS, if it is GUARDED and MODE is 0; NONE of 1 to 12, if it TRAPS
    private void lastStates() {
        GuestView x = Due.with("op guarded add 1;op add 1");
        for (int what = 0; what <= 12; what++) {
            due.is("GUARDED in STATE 507", x.done(0, 507, what), what == 0 ? 1 : NONE);
            due.is("not GUARDED in STATE 507", x.done(1, 507, what) == NONE, false);
            due.is("GUARDED in STATE 511", x.done(0, 511, what), x.done(1, 511, what));
        }
        due.is("GUARDED in STATE 511 TRAPS", x.done(0, 511, 0), 0);
    }

    // WITNESS: the least such STATE; none
    private void witnessesOfRange() {
        GuestView x = Due.with("op load 0 quiet skip 3;op rise;op guarded rise;op time skip 3 load 0;op save 0 where load 1"
            + ";op move load 0;op guarded drop quiet add 1;op where move load 0");
        due.is("MODAL: CELL 2 is 3 with PATTERN 5 first", x.witness(0, 1), 5 * 32 + 8);
        due.is("CONTROL in the very first STATE", x.witness(1, 0), 0);
        due.is("rise GUARDED: none", x.witness(2, 0), NONE);
        due.is("TIMED by CLOCK 3 alone", x.witness(3, 3), 0);
        due.is("CELLS as seen from BASE are alike: not LOCAL", x.witness(4, 2), NONE);
        due.is("CONTROL in another BASE than 0", x.witness(5, 0), 1);
        due.is("LOCAL: CELLS show it", x.witness(5, 2), 40);
        due.is("MODAL: GUARDED, so never", x.witness(6, 1), NONE);
        due.is("CONTROL, GUARDED", x.witness(6, 0), 4);
        due.is("where, then back to it: not LOCAL", x.witness(7, 2), NONE);
        due.is("not SENSITIVE", x.op(4, 7), 0);
        due.is("TIMED alone is not SENSITIVE", x.op(3, 7), 0);
        GuestView y = Due.with("op time;op where time;op where quiet;op add 1 rise;op move;op save 7 load 7;op who skip 1 load 0;op quiet");
        // Of the second one R is CLOCK in the end: TIMED, not LOCAL.
        int[] traits = {8, 8, 4, 1, 1, 0, 2, 0};
        for (int op = 0; op < 8; op++) {
            for (int what = 0; what < 4; what++) {
                due.is("trait " + what + " of " + op, y.op(op, 3 + what), traits[op] >> what & 1);
                due.is("witness " + what + " of " + op, y.witness(op, what) == NONE, (traits[op] >> what & 1) == 0);
            }
        }
    }

    // HOSTABLE: each SENSITIVE OP is GUARDED; LEAST: neither GUARDED nor PATCHED, as bits
    private void sensitiveOps() {
        GuestView x = Due.with("op who" + ";op who".repeat(7));
        due.is("all eight", x.least(), 255);
        due.is("all eight", x.open(), 8);
        for (int op = 0; op < 8; op++) {
            due.is("not HOSTABLE", x.hostable(), false);
            x.patch(op, true);
            due.is("not those PATCHED", x.least(), 255 << op + 1 & 255);
            due.is("those PATCHED, too", x.open(), 8 - op);
            x.patch(op, false);
            x.guard(op, true);
            due.is("not those GUARDED", x.least(), 255 << op + 1 & 255);
            due.is("not those GUARDED", x.open(), 7 - op);
        }
        due.is("HOSTABLE", x.hostable(), true);
        x.guard(0, false);
        due.is("but for the first", x.hostable(), false);
        due.is("but for the first", x.least() * 10 + x.open(), 11);
        GuestView y = new GuestView();
        y.image();
        Due.bench(y, "op who;op who");
        due.is("two", y.least() * 10 + y.open(), 32);
        y.back();
        due.is("none any more", y.least() * 10 + y.open(), 0);
        due.is("HOSTABLE without OPS", y.hostable(), true);
        Due.bench(y, "op add 1;op who");
        due.is("another first OP", y.least() * 10 + y.open(), 21);
    }

    // HALTED: if PC is as many as PROGRAM has OPS, or more
    private void halted() {
        GuestView x = Due.with("op guarded drop;op add 1;op skip 0;program 1 0 0");
        for (int vector = 0; vector <= 9; vector++) {
            x.vector(vector);
            due.is("ticks", x.ticks(3), 2);
            due.is("PC by VECTOR", x.guest(true, 0), vector);
            due.is("HALTED at " + vector, x.guest(true, 5), vector >= 3 ? 1 : 0);
            due.is("HALTED at " + vector, x.guest(false, 5), vector >= 3 ? 1 : 0);
            x.ticks(1);
            due.is("a STEP more of the BARE one", x.guest(false, 4), vector >= 3 ? 3 : 4);
        }
        GuestView y = Due.with("op add 1;op skip 0;program 1");
        due.is("not HALTED yet", y.guest(true, 5), 0);
        y.ticks(1);
        due.is("one more than there are", y.guest(true, 0), 2);
        due.is("HALTED", y.guest(true, 5), 1);
        y.ticks(60);
        due.is("no STEPS", y.guest(true, 4), 1);
        y.put(0, 0);
        y.ticks(1);
        due.is("as many as there are", y.guest(true, 0), 1);
        due.is("HALTED", y.guest(false, 5), 1);
        due.is("a PROGRAM of none", Due.with("program").guest(false, 5), 1);
    }

    // PC is 1 more, or 2, if it SKIPS: the highest that can be is 11
    private void farthestPc() {
        GuestView x = Due.with("op quiet;op skip 0;vector 9;program 0 0 0 0 0 0 0 0 0 1");
        x.ticks(9);
        due.is("the last place", x.guest(false, 0), 9);
        due.is("not HALTED", x.guest(false, 5), 0);
        x.ticks(1);
        due.is("SKIPS from place 9", x.guest(false, 0), 11);
        due.is("SKIPS from place 9", x.guest(true, 0), 11);
        due.is("HALTED", x.guest(true, 5), 1);
        due.is("ahead", x.ahead(60, true), 11);
        x.put(9, 0);
        x.ticks(10);
        due.is("from place 9 on", x.guest(true, 0), 10);
    }

    // CLOCK is 1 more, modulo 8; time: R is CLOCK modulo 4
    private void clockGoesRound() {
        GuestView x = Due.with("op time;op guarded rise;program 0 0 0 0 0 0 0 0 0 0");
        for (int n = 0; n < 10; n++) {
            due.is("CLOCK, BARE", x.guest(false, 4), n % 8);
            due.is("CLOCK, HOSTED", x.guest(true, 4), n % 8);
            x.ticks(1);
            due.is("time", x.guest(false, 1), n % 4);
            due.is("time", x.guest(true, 1), n % 4);
        }
        x.put(0, 1);
        for (int cost = 0; cost <= 7; cost++) {
            x.cost(cost);
            x.ticks(1);
            due.is("CLOCK by COST " + cost, x.guest(true, 4), (1 + cost) % 8);
            due.is("CLOCK, BARE", x.guest(false, 4), 1);
        }
    }

    // VIRTUAL BASE and SHIFT, modulo 8; BASE less SHIFT, modulo 8 (and 8, if that is below 0)
    private void virtualBase() {
        GuestView x = Due.with("op add 1;op move;op where;op quiet");
        for (int shift = 0; shift < 4; shift++) {
            for (int r = 0; r < 4; r++) {
                x.shift(shift);
                for (int k = 0; k < r; k++) {
                    x.put(k, 0);
                }
                x.put(r, 1);
                x.put(r + 1, 3);
                x.put(r + 2, 2);
                x.ticks(r + 1);
                due.is("BASE, BARE", x.guest(false, 3), 2 * r);
                due.is("VIRTUAL BASE at SHIFT " + 2 * shift, x.guest(true, 3), (2 * r - 2 * shift + 8) % 8);
                x.ticks(1);
                due.is("it stays", x.guest(true, 3), (2 * r - 2 * shift + 8) % 8);
                x.ticks(1);
                due.is("where, BARE", x.guest(false, 1), r);
                due.is("where sees the host's BASE", x.guest(true, 1), r);
                due.is("ALIKE without a SHIFT alone", x.alike(), shift == 0);
            }
        }
        x.patch(1, true);
        x.shift(3);
        x.ticks(4);
        due.is("EMULATED: the same BASE", x.guest(true, 3), 6);
        x.ticks(2);
        due.is("where: 6 and 6, modulo 8", x.guest(true, 1), 2);
    }

    // its CELL K lies in the host's CELL (K and SHIFT, modulo 8)
    private void ownCells() {
        GuestView x = Due.with("op load 7;op save 0;op guarded load 1;op guarded save 7;op add 3;program 0 1 2 4 3;cells 1 2 3 0 1 2 3 3");
        for (int shift = 0; shift < 4; shift++) {
            x.shift(shift);
            x.ticks(2);
            due.is("load 7, save 0", x.guest(true, 6), 3);
            due.is("CELL 7 still", x.guest(true, 13), 3);
            due.is("load 1, add 3, save 7: EMULATED", x.ticks(3), 2);
            due.is("R", x.guest(true, 1), 1);
            for (int cell = 0; cell < 8; cell++) {
                due.is("own CELL at SHIFT " + 2 * shift, x.guest(true, 6 + cell), new int[] {3, 2, 3, 0, 1, 2, 3, 1}[cell]);
                due.is("CELL, BARE", x.guest(false, 6 + cell), new int[] {3, 2, 3, 0, 1, 2, 3, 1}[cell]);
            }
            due.is("alike", x.alike(), true);
            due.is("FIRST CELL stays", x.cell(7), 3);
        }
    }

    // GUARDED and VIRTUAL MODE 0: REFLECTED; else GUARDED or PATCHED: EMULATED; else LET THROUGH
    private void reflectedOrNot() {
        GuestView x = Due.with("op drop;op guarded who;op who;program 1 0 1;vector 3");
        x.patch(0, true);
        x.patch(2, true);
        due.is("all three trap", x.ticks(3), 3);
        int[] kinds = {1, 1, 0};
        for (int n = 0; n < 3; n++) {
            due.is("REFLECTED or EMULATED", x.log(2 - n, 2), kinds[n]);
        }
        due.is("R stays by a REFLECTED one", x.guest(true, 1), 1);
        due.is("MODE 1", x.guest(true, 2), 1);
        due.is("to VECTOR", x.guest(true, 0), 3);
        x.put(2, 2);
        x.ticks(3);
        due.is("PATCHED in user mode: EMULATED", x.log(0, 2), 1);
        due.is("by VIRTUAL MODE", x.guest(true, 1), 0);
        x.patch(2, false);
        due.is("LET THROUGH is no trap", x.ticks(3), 2);
        due.is("by MODE 0 all the same", x.guest(true, 1), 0);
        x.guard(2, true);
        x.patch(2, true);
        x.ticks(3);
        due.is("GUARDED and PATCHED in user mode: REFLECTED", x.log(0, 2), 0);
    }

    // VIRTUAL MODE stays; if MODE is 1 behind it: an ESCAPE
    private void escapes() {
        GuestView x = Due.with("op rise;op rise drop;op drop rise;op quiet rise;op drop");
        int[] rows = {1, 0, 1, 0, 0};
        for (int op = 0; op < 5; op++) {
            x.put(0, op);
            int before = x.count(10);
            due.is("no trap", x.ticks(1), 0);
            boolean parts = op == 4 || op == 1;
            due.is("rows of OP " + op, x.count(10) - before, rows[op] + (parts ? 1 : 0));
            due.is("an ESCAPE or VIEWS", x.log(0, 2), op == 3 ? 2 : parts ? 3 : 2);
            due.is("VIRTUAL MODE stays", x.guest(true, 2), 1);
            due.is("MODE of the BARE one", x.guest(false, 2), parts ? 0 : 1);
        }
        x.patch(0, true);
        x.put(0, 0);
        x.ticks(1);
        due.is("EMULATED is no ESCAPE", x.log(0, 2), 1);
    }

    // VIEW of a guest: PC, R, MODE, BASE, its own CELLS: each alone may be unlike
    private void viewsOfOne() {
        String[] ops = {"who skip 0 load 0", "who", "drop", "move", "who save 0 load 1", "who save 7 load 1", "time", "add 1"};
        for (int k = 0; k < ops.length; k++) {
            GuestView x = Due.with("op " + ops[k] + ";program 0");
            x.ticks(1);
            due.is("alike behind " + ops[k], x.alike(), k >= 6);
            due.is("leaks by " + ops[k], x.leaks(), k >= 6 ? NONE : 1);
            int unlike = 0;
            for (int what = 0; what <= 13; what++) {
                unlike += x.guest(true, what) == x.guest(false, what) ? 0 : 1;
            }
            // A PC that is unlike is not HALTED unlike: PROGRAM ends at 1.
            due.is("how many are unlike behind " + ops[k], unlike, k >= 6 ? 0 : 1);
        }
        GuestView y = Due.with("op guarded rise;program 0;cost 6");
        y.ticks(1);
        due.is("CLOCK is not of the VIEW", y.alike(), true);
        due.is("CLOCK is unlike", y.guest(true, 4) - y.guest(false, 4), 6);
    }

    // if DRAW modulo 100 is below ALARM
    private void drawsAtAlarm() {
        int[][] cases = {{SEED_OF_0, 0, 0}, {SEED_OF_0, 1, 1}, {SEED_OF_99, 99, 0}, {SEED_OF_99, 100, 1}, {1, 38, 0}, {1, 39, 1}};
        for (int[] c : cases) {
            GuestView x = Due.with("op add 1;program 0;vector 5");
            x.alarm(c[1]);
            x.seed(c[0]);
            due.is("trial", x.trial(1, true), 1);
            x.ticks(1);
            due.is("alarm " + c[1] + " with SEED " + c[0], x.count(10), c[2]);
            due.is("PC", x.guest(true, 0), c[2] == 1 ? 5 : 1);
            due.is("PC", x.guest(false, 0), c[2] == 1 ? 5 : 1);
            due.is("R", x.guest(true, 1), 1 - c[2]);
            due.is("the DRAW always", x.seed(0), 1103515245 * c[0] + 12345);
        }
    }

    // as an int that goes round; bits 16 to 30
    private void seedsGoRound() {
        int[] seeds = {0, -1, Integer.MIN_VALUE, Integer.MAX_VALUE, 286434947, -1861048701, -59267453, 2088216195};
        for (int seed : seeds) {
            int next = (int) ((seed & 0xffffffffL) * 1103515245L + 12345L);
            int draw = (int) ((next & 0x7fffffffL) / 65536);
            for (int alarm = draw % 100; alarm <= draw % 100 + 1; alarm++) {
                GuestView x = new GuestView();
                x.vector(4);
                x.alarm(alarm);
                due.is("SEED 1 at first", x.seed(seed), 1);
                x.ticks(1);
                due.is("an alarm of SEED " + seed, x.guest(false, 0), alarm > draw % 100 ? 4 : 0);
                due.is("SEED", x.seed(7), next);
                due.is("SEED told", x.seed(seed), 7);
            }
        }
    }

    // of both guests (HALTED or not) MODE is 1, PC is VECTOR (CLOCKS stay)
    private void alarmsOfHalted() {
        GuestView x = Due.with("op guarded drop;op add 1;program 0 1 1;vector 1;cost 3");
        x.ticks(3);
        due.is("HALTED", x.guest(true, 5), 1);
        x.image();
        // ALARM 100 would BOOT: with SEED 2 the first DRAW modulo 100 is 8.
        GuestView y = Due.with("op guarded drop;op add 1;program 0 1 1;vector 1;cost 3;alarm 9");
        y.ticks(3);
        due.is("no alarms so far: 38 58 13", y.count(10), 1);
        due.is("HALTED", y.guest(true, 5), 1);
        y.seed(2);
        due.is("an alarm is no trap", y.ticks(1), 0);
        for (int hosted = 0; hosted < 2; hosted++) {
            due.is("PC", y.guest(hosted == 1, 0), 1);
            due.is("MODE", y.guest(hosted == 1, 2), 1);
            due.is("R stays", y.guest(hosted == 1, 1), 2);
            due.is("CLOCK stays", y.guest(hosted == 1, 4), hosted == 1 ? 6 : 3);
            due.is("HALTED no more", y.guest(hosted == 1, 5), 0);
        }
        due.is("TICK goes on", y.count(8), 4);
        int[] row = {3, NONE, 4, 3};
        for (int what = 0; what < 4; what++) {
            due.is("the row of the alarm", y.log(0, what), row[what]);
        }
        due.is("AHEAD is without alarms", y.ahead(2, true), 3);
        due.is("PURSE stays", y.count(9), 1);
    }

    // TICK is 1 more (9999 at most)
    private void tickAtMost() {
        GuestView x = new GuestView();
        for (int n = 0; n < 166; n++) {
            x.ticks(60);
        }
        x.ticks(38);
        due.is("TICK", x.count(8), 9998);
        x.ticks(1);
        due.is("TICK", x.count(8), 9999);
        x.ticks(1);
        due.is("TICK at most", x.count(8), 9999);
        x.ticks(60);
        due.is("TICK at most", x.count(8), 9999);
        x.alarm(100);
        x.ticks(2);
        due.is("TICK of a row", x.log(0, 0), 9999);
        due.is("TICK of a row", x.log(1, 0), 9999);
        x.undo();
        x.undo();
        x.undo();
        due.is("TICK ahead of the 60", x.count(8), 9999);
        x.undo();
        x.undo();
        due.is("TICK ahead of the last one", x.count(8), 9998);
    }

    // PURSE is its WORTH more (9999 at most)
    private void purseAtMost() {
        GuestView x = Due.with("op guarded rise;op guarded rise;program 0 0 0 0 0 0 0 0 0 1;purse 999");
        Due.law(x, "worth 40;".repeat(6) + "worth 9;worth 25 if op > 0;worth 7 if op > 0");
        // Nine times 250 of OP 0, then 282 of OP 1.
        for (int n = 1; n <= 3; n++) {
            x.boot();
            x.ticks(10);
            due.is("PURSE", x.count(9), 999 + n * 2532);
        }
        x.boot();
        x.ticks(5);
        due.is("PURSE", x.count(9), 9845);
        due.is("trial, within", x.trial(0, false), 9845);
        due.is("trial, at most", x.trial(1, false), 9999);
        due.is("span, at most", x.span(60, true), 9999);
        due.is("span, at most", x.span(60, false), 9999);
        due.is("traps still", x.ticks(1), 1);
        due.is("PURSE at most", x.count(9), 9999);
        x.ticks(4);
        due.is("PURSE at most", x.count(9), 9999);
        Due.law(x, "worth 40;".repeat(2) + "worth 24;worth 9 if op > 0");
        Due.bench(x, "purse 999;program 0 0 0 0 0 0 0 0 0 0");
        for (int n = 0; n < 8; n++) {
            x.boot();
            x.ticks(10);
        }
        due.is("PURSE", x.count(9), 999 + 80 * 105);
        x.boot();
        x.ticks(5);
        due.is("PURSE one below 9925", x.count(9), 9924);
        Due.law(x, "worth 40;worth 34");
        x.ticks(1);
        due.is("PURSE 9999 just so", x.count(9), 9999);
    }

    // THE LOG: the latest 60 times
    private void sixtyRows() {
        GuestView x = Due.with("op guarded rise;op skip 0;program 0 0 0 0 0 0 0 0 0 0");
        for (int n = 0; n < 5; n++) {
            x.ticks(10);
            x.boot();
        }
        x.ticks(9);
        due.is("59 rows", x.count(10), 59);
        due.is("the oldest", x.log(58, 0), 0);
        due.is("none ahead of it", x.log(59, 0), NO_ROW);
        x.ticks(1);
        due.is("60 rows", x.count(10), 60);
        due.is("the oldest", x.log(59, 0), 0);
        due.is("none ahead of it", x.log(60, 0), NO_ROW);
        due.is("led", x.led(0, false), 60);
        x.boot();
        x.ticks(1);
        due.is("60 rows at most", x.count(10), 60);
        due.is("the oldest is the second", x.log(59, 0), 1);
        due.is("PC of it", x.log(59, 3), 1);
        due.is("none ahead of it", x.log(60, 0), NO_ROW);
        due.is("the latest", x.log(0, 0), 60);
        due.is("led", x.led(0, false), 60);
        x.undo();
        due.is("the oldest again", x.log(59, 0), 0);
        due.is("the latest again", x.log(0, 0), 59);
        x.image();
        x.boot();
        for (int n = 0; n < 4; n++) {
            x.ticks(9);
            x.boot();
        }
        due.is("36 rows later", x.log(59, 0), 36);
        x.back();
        for (int ago = 0; ago < 60; ago++) {
            due.is("each row of THE IMAGE", x.log(ago, 0), 59 - ago);
            due.is("PC of each row of THE IMAGE", x.log(ago, 3), (59 - ago) % 10);
        }
        x.put(0, 1);
        x.boot();
        x.ticks(10);
        due.is("a SKIP, eight EMULATED", x.log(59, 0), 8);
        for (int ago = 0; ago < 60; ago++) {
            due.is("each row", x.log(ago, 0), ago < 8 ? 68 - ago : 67 - ago);
        }
    }

    // in the order 4, 0 to 3 of one TICK; the OP: none of 4
    private void orderOfOneTick() {
        // time: EMULATED, but VIEWS are unlike behind it by the CLOCK.
        GuestView x = Due.with("op guarded rise;op time;program 0 1;cost 2");
        x.patch(1, true);
        due.is("two traps", x.ticks(2), 2);
        int[][] rows = {{0, 0, 1, 0}, {1, 1, 1, 1}, {1, 1, 3, 1}};
        check(x, rows);
        due.is("led", x.led(1, false), 2);
        x.ticks(1);
        due.is("unlike still: no row more", x.count(10), 3);
        // A guard parts VIEWS: the BARE one has dropped, the HOSTED one has not, and is EMULATED, not trapped.
        GuestView y = Due.with("op drop;op guarded add 1;program 0 1;vector 5");
        y.ticks(2);
        check(y, new int[][] {{0, 0, 3, 0}, {1, 1, 1, 1}});
        // REFLECTED, while the BARE one goes on: it has risen.
        GuestView z = Due.with("op guarded drop;op rise;op guarded add 1;program 0 1 2;vector 5");
        z.ticks(3);
        check(z, new int[][] {{0, 0, 1, 0}, {1, 1, 2, 1}, {1, 1, 3, 1}, {2, 2, 0, 2}});
        // An alarm mends MODE and PC: VIEWS are alike again, which is no row, and can part once more.
        GuestView w = Due.with("op drop;op quiet;program 0 1;vector 1");
        w.ticks(1);
        due.is("unlike", w.alike(), false);
        due.is("one row", w.count(10), 1);
        GuestView v = Due.with("op drop;op quiet;program 0 1;vector 0;alarm 9");
        v.ticks(1);
        v.seed(2);
        v.ticks(2);
        due.is("alike by the alarm, unlike again", v.count(10), 3);
        check(v, new int[][] {{0, 0, 3, 0}, {1, NONE, 4, 1}, {2, 0, 3, 0}});
    }

    private void check(GuestView x, int[][] rows) {
        due.is("rows", x.count(10), rows.length);
        for (int n = 0; n < rows.length; n++) {
            for (int what = 0; what < 4; what++) {
                due.is("row " + n + ", what " + what, x.log(rows.length - 1 - n, what), rows[n][what]);
            }
        }
    }

    // LED: how many rows are of an OP (0), the TICK of the latest (none); log: - 2 without
    private void noRows() {
        GuestView x = Due.with("op add 1;op guarded rise;program 0 0 1");
        x.ticks(2);
        due.is("no rows", x.count(10), 0);
        for (int what = 0; what < 4; what++) {
            due.is("log(0)", x.log(0, what), NO_ROW);
        }
        for (int op = 0; op < 2; op++) {
            due.is("led", x.led(op, false), 0);
            due.is("led, TICK", x.led(op, true), NONE);
        }
        x.ticks(2);
        due.is("one row", x.count(10), 1);
        due.is("led", x.led(1, false), 1);
        due.is("led, TICK", x.led(1, true), 2);
        due.is("led of another one", x.led(0, true), NONE);
        due.is("log(1)", x.log(1, 0), NO_ROW);
    }

    // LEAKS: the first N (1 to 60)
    private void lastLeak() {
        GuestView x = Due.with("op who;op add 1;program 0");
        due.is("the first STEP", x.leaks(), 1);
        x.put(0, 1);
        due.is("none", x.leaks(), NONE);
        for (int place = 1; place < 9; place++) {
            x.put(place, 1);
        }
        x.put(9, 0);
        due.is("the last of ten", x.leaks(), 10);
        x.ticks(5);
        due.is("from BOOT on", x.leaks(), 10);
        due.is("nothing stays", x.guest(true, 0), 5);
        x.alarm(100);
        due.is("no alarms", x.leaks(), 10);
        // CELL 0 is counted up to four, four times over, by CELL 1: where stands at the 60th STEP, then at the 61st.
        GuestView y = Due.with("op load 0 add 1 save 0;op drop skip 0;op guarded add 0;op add 0;op load 1 add 1 save 1;op skip 0;op where"
            + ";program 0 1 2 3 4 5 2 6");
        y.patch(1, true);
        due.is("the 60th", y.leaks(), 60);
        due.is("traps", y.traps(60), 16 + 12 + 3);
        due.is("ahead", y.ahead(59, true), 7);
        due.is("ahead", y.ahead(60, false), 8);
        y.put(7, 3);
        y.put(8, 6);
        due.is("beyond", y.leaks(), NONE);
        y.ticks(60);
        due.is("alike", y.alike(), true);
        y.ticks(1);
        due.is("alike no more", y.alike(), false);
    }

    // TRAPS, DEPTH: such as find the HOSTED one HALTED nothing
    private void trapsOfHalted() {
        GuestView x = Due.with("op guarded rise;op add 1;program 0 1 0;cost 3");
        int[] traps = {0, 1, 1, 2, 2};
        int[] depth = {0, 16, 17, 33, 33};
        for (int n = 0; n < 5; n++) {
            due.is("traps(" + n + ")", x.traps(n), traps[n]);
            due.is("depth(" + n + ", 5)", x.depth(n, 5), depth[n]);
            due.is("depth(" + n + ", 0)", x.depth(n, 0), Math.min(n, 3));
            due.is("depth(" + n + ", 1)", x.depth(n, 1), Math.min(n, 3) + 3 * traps[n]);
        }
        due.is("traps(60)", x.traps(60), 2);
        due.is("depth(60, 5)", x.depth(60, 5), 33);
        x.ticks(1);
        due.is("traps(1) from BOOT on", x.traps(1), 1);
        due.is("depth(1, 5) from BOOT on", x.depth(1, 5), 16);
        x.guard(1, true);
        due.is("traps behind an act", x.traps(60), 3);
        x.put(3, 1);
        due.is("depth behind an act", x.depth(60, 5), 64);
        GuestView y = Due.with("op add 1");
        y.guard(0, true);
        y.put(0, 0);
        due.is("traps, asked first", y.traps(60), 1);
    }

    // PROOF: of one to three OPS; 0 of those that there are not, ahead; none
    private void proofOfThree() {
        due.is("one of eight, the last", Due.with("op rise;op rise;op rise;op rise;op rise;op rise;op rise;op who").proof(), 1008);
        due.is("one of one", Due.with("op who").proof(), 1001);
        due.is("none of one", Due.with("op rise").proof(), NONE);
        due.is("two", Due.with("op add 1;op add 1 move;op guarded drop;op load 0").proof(), 1002);
        GuestView three = Due.with("op time;op guarded rise;cost 0");
        due.is("none without a cost", three.proof(), NONE);
        Due.law(three, "cost 1 if uses > 1");
        due.is("three", three.proof(), 3212);
        Due.law(three, "cost 1 if uses > 2");
        due.is("four would be needed", three.proof(), NONE);
        three.put(0, 1);
        three.put(1, 1);
        three.put(2, 1);
        three.put(3, 0);
        due.is("four leak, but are no PROOF", three.leaks() * 10 + three.proof(), 39);
        GuestView two = Due.with("op guarded rise;op rise;op rise;op rise;op rise;op rise;op rise;op time");
        due.is("two, the first and the last", two.proof(), 2018);
        Due.law(two, "cost 7 if uses < 2;cost 1 if uses > 1");
        due.is("8, and 2 times 2, are not seen modulo 4", two.proof(), 3181);
    }

    // CLASH: both save a CELL of one N, or one saves and the other one loads it
    private void clashesOfN() {
        GuestView x = Due.with("op save 0;op save 7;op load 0;op load 7;op load 0 save 7;op add 0 skip 7;op save 7 load 7;op load 3 load 4 save 0");
        String[] clashes = {"247", "346", "07", "146", "01367", "", "134", "024"};
        for (int op = 0; op < 8; op++) {
            for (int other = 0; other < 8; other++) {
                if (op != other) {
                    boolean is = clashes[op].indexOf('0' + other) >= 0;
                    due.is("clash(" + op + ", " + other + ")", x.clash(op, other), is);
                }
            }
        }
    }

    // BESIDE: of several the least as bits
    private void besideOfSeveral() {
        due.is("one", Due.with("op save 1").beside(), 1);
        due.is("one of two that CLASH", Due.with("op save 1;op save 1").beside(), 1);
        due.is("one of three that CLASH", Due.with("op save 1;op load 1 save 2;op load 2 save 1").beside(), 1);
        due.is("two of three: the least as bits", Due.with("op save 1;op save 1;op save 2").beside(), 1 + 4);
        due.is("two of four", Due.with("op save 1;op save 1;op save 2;op save 2").beside(), 1 + 4);
        due.is("without the first", Due.with("op load 1 load 2 save 3;op save 1;op save 2").beside(), 2 + 4);
        due.is("all eight", Due.with("op rise" + ";op load 1".repeat(7)).beside(), 255);
        due.is("one of eight", Due.with("op save 1" + ";op save 1".repeat(7)).beside(), 1);
        due.is("the last seven", Due.with("op save 1" + ";op load 1".repeat(7)).beside(), 254);
    }

    // SIDE: 0, if both do
    private void turnsOfLikeCells() {
        int[][] cases = {{3, 3, 3, 3, 3, 3, 3, 3, 0, 0}, {1, 0, 0, 0, 0, 0, 0, 1, 0, 0}, {0, 0, 0, 0, 0, 0, 0, 1, 1, 1},
            {1, 0, 0, 0, 0, 0, 0, 0, 1, 0}, {3, 0, 3, 0, 3, 0, 3, 0, 12, 0}, {0, 3, 0, 3, 0, 3, 0, 3, 12, 1},
            {0, 0, 0, 3, 3, 0, 0, 0, 0, 0}, {2, 3, 0, 0, 0, 0, 0, 3, 4, 1}, {2, 2, 2, 2, 2, 2, 1, 1, 0, 0}};
        for (int[] c : cases) {
            GuestView x = new GuestView();
            for (int cell = 0; cell < 8; cell++) {
                x.store(cell, c[cell]);
            }
            due.is("side", x.side(), c[9]);
            due.is("lead", x.lead(), c[8]);
            due.is("side", x.side(), c[9]);
        }
        for (int n = 1; n <= 60; n++) {
            GuestView x = new GuestView();
            int[] row = new int[8];
            for (int cell = 0; cell < 8; cell++) {
                row[cell] = n * (cell + 3) * (cell + n) / 7 % 4;
                x.store(cell, row[cell]);
            }
            int left = row[0] - played(row, 1, 8);
            int right = row[7] - played(row, 0, 7);
            due.is("side of row " + n, x.side(), right > left ? 1 : 0);
            due.is("lead of row " + n, x.lead(), Math.max(left, right));
            Due.bench(x, "op rise rise rise" + ";op rise rise rise".repeat(6) + ";op rise");
            due.is("pairs between", x.pairs(NONE), 3 * 7 + 1);
            due.is("lead of row " + n + " again", x.lead(), Math.max(left, right));
        }
    }

    private static int played(int[] row, int from, int to) {
        if (from == to) {
            return 0;
        }
        return Math.max(row[from] - played(row, from + 1, to), row[to - 1] - played(row, from, to - 1));
    }

    // PAIRS: each in one such pair at most, none that CLASH; none being the least
    private void pairsOfNone() {
        GuestView none = new GuestView();
        due.is("no OPS", none.pairs(NONE), 0);
        GuestView one = Due.with("op add 1 add 1 add 1");
        due.is("one OP", one.pairs(NONE), 0);
        due.is("one OP", one.pairs(0), NONE);
        GuestView clash = Due.with("op save 1;op save 1");
        due.is("two that CLASH", clash.pairs(NONE), 0);
        due.is("two that CLASH", clash.pairs(0), NONE);
        due.is("two that CLASH", clash.pairs(1), NONE);
        GuestView two = Due.with("op save 1;op save 2");
        due.is("two", two.pairs(NONE), 2);
        due.is("two", two.pairs(0), 1);
        due.is("two", two.pairs(1), 0);
        GuestView three = Due.with("op rise;op rise;op rise");
        int[] with3 = {NONE, 2, 1};
        for (int op = 0; op < 3; op++) {
            due.is("the first of three is none", three.pairs(op), with3[op]);
        }
        GuestView eight = Due.with("op rise rise rise" + ";op rise rise rise".repeat(7));
        due.is("all eight", eight.pairs(NONE), 24);
        for (int op = 0; op < 8; op++) {
            due.is("with the next", eight.pairs(op), op ^ 1);
        }
        GuestView like = Due.with("op save 1" + ";op save 1".repeat(7));
        due.is("eight that CLASH", like.pairs(NONE) * 10 + like.pairs(7), NONE);
        GuestView cross = Due.with("op save 1;op save 1;op save 2;op save 2");
        int[] with4 = {2, 3, 0, 1};
        for (int op = 0; op < 4; op++) {
            due.is("not with the one that CLASHES", cross.pairs(op), with4[op]);
        }
        for (GuestView x : new GuestView[] {none, one, clash, two, three, like}) {
            int pairs = x.pairs(NONE);
            for (int cell = 0; cell < 8; cell++) {
                x.store(cell, 3 - cell % 2);
            }
            x.lead();
            due.is("TURNS leave PAIRS alone", x.pairs(NONE), pairs);
        }
        GuestView last = Due.with("op save 1 save 2 save 3;op rise rise;op load 1;op load 2;op load 3");
        due.is("the most", last.pairs(NONE), 7);
        int[] with5 = {1, 0, NONE, 4, 3};
        for (int op = 0; op < 5; op++) {
            due.is("none being the least", last.pairs(op), with5[op]);
        }
    }

    // RESTS: from which neither would have MORE by its other one
    private void restsWithoutMore() {
        GuestView x = Due.with("op rise;op drop;cost 0");
        due.is("BLAME 0: not doing it is not more", x.rests(0), 1);
        Due.law(x, "blame 1 if op < 1;blame 0");
        due.is("BLAME 1: not doing it is more", x.rests(0), 0);
        due.is("BLAME 0", x.rests(1), 1);
        Due.law(x, "cost 40;worth 40");
        due.is("watched and done", x.rests(0), 1);
    }

    // ODDS: in K of them at least, in ten thousandths, rounded down
    private void oddsRoundedDown() {
        GuestView x = new GuestView();
        x.alarm(1);
        int[][] cases = {{0, 0, 10000}, {0, 1, 0}, {1, 0, 10000}, {1, 1, 100}, {1, 2, 0}, {2, 1, 199}, {2, 2, 1}, {3, 3, 0},
            {5, 1, 490}, {5, 5, 0}, {5, 0, 10000}};
        for (int[] c : cases) {
            due.is("odds(" + c[0] + ", " + c[1] + ") of 1", x.odds(c[0], c[1]), c[2]);
        }
        x.alarm(99);
        due.is("99: 0.99 ^ 5", x.odds(5, 5), 9509);
        due.is("99: all but 0.01 ^ 5", x.odds(5, 1), 9999);
        due.is("99: four of five", x.odds(5, 4), 9990);
        x.alarm(50);
        int[] of5 = {10000, 9687, 8125, 5000, 1875, 312};
        for (int k = 0; k <= 5; k++) {
            due.is("50: at least " + k, x.odds(5, k), of5[k]);
            x.alarm(100);
            due.is("100", x.odds(5, k), 10000);
            due.is("100, one more than there are", k == 5 ? 0 : x.odds(k, k + 1), 0);
            x.alarm(0);
            due.is("0", x.odds(5, k), k == 0 ? 10000 : 0);
            x.alarm(50);
        }
    }

    // LONGEST, DEAREST, MOST USED: of several the least
    private void mostOfSeveral() {
        GuestView x = Due.with("op rise;op rise rise;op drop drop;op rise");
        due.is("LONGEST", x.most(0), 1);
        due.is("DEAREST, all alike", x.most(1), 0);
        Due.bench(x, "program 3 2 3 2 1;cost 0");
        due.is("MOST USED", x.most(2), 2);
        due.is("DEAREST, all for nothing", x.most(1), 0);
        Due.law(x, "cost 1 if op > 1");
        due.is("DEAREST", x.most(1), 2);
        Due.law(x, "cost 1 if op > 2");
        due.is("DEAREST, the last", x.most(1), 3);
        due.is("one alone", Due.with("op rise;program 0").most(2), 0);
        due.is("the last of eight", Due.with("op rise" + ";op rise".repeat(6) + ";op rise rise").most(0), 7);
    }

    // TWINS: pairs of OPS of like MICROS (KIND and N, one behind another) and GUARDED alike
    private void twinsOfGuards() {
        due.is("one OP", Due.with("op rise").twins(), 0);
        due.is("eight alike", Due.with("op add 1" + ";op add 1".repeat(7)).twins(), 28);
        due.is("N unlike, though alike modulo 4", Due.with("op add 0;op add 4;op skip 1;op skip 5").twins(), 0);
        due.is("KIND unlike", Due.with("op load 1;op save 1;op rise;op drop").twins(), 0);
        due.is("one more MICRO", Due.with("op rise;op rise rise;op rise rise rise").twins(), 0);
        due.is("another order", Due.with("op rise drop;op drop rise").twins(), 0);
        due.is("the third alone unlike", Due.with("op rise drop add 1;op rise drop add 2").twins(), 0);
        due.is("GUARDED unlike", Due.with("op rise;op guarded rise").twins(), 0);
        due.is("GUARDED both", Due.with("op guarded rise;op guarded rise").twins(), 1);
    }

    // SHARE: in hundredths, rounded down (0 without)
    private void sharesRoundedDown() {
        GuestView x = Due.with("op rise;op drop;op who");
        due.is("without", x.op(0, 12), 0);
        int[][] cases = {{100, 0, 0}, {50, 50, 0}, {33, 66, 0}, {25, 75, 0}, {20, 80, 0}, {16, 83, 0}, {14, 85, 0}, {12, 87, 0},
            {11, 88, 0}, {10, 90, 0}};
        for (int n = 1; n <= 10; n++) {
            x.put(n - 1, n == 1 ? 0 : 1);
            for (int op = 0; op < 3; op++) {
                due.is("SHARE of " + op + " in " + n, x.op(op, 12), cases[n - 1][op]);
                due.is("uses of " + op + " in " + n, x.op(op, 11), op == 0 ? 1 : op == 1 ? n - 1 : 0);
            }
        }
        Due.bench(x, "program 2 2 2 2 2 2 2 2 2 2");
        due.is("all ten", x.op(2, 12), 100);
        due.is("all ten", x.op(2, 11), 10);
        Due.bench(x, "program");
        due.is("without again", x.op(2, 12), 0);
    }

    // SPAN: the least and the greatest PURSE so from SEED 1, 2, .. 6
    private void seedsOfSpan() {
        GuestView x = Due.with("op guarded drop;program 0 0;vector 0");
        due.is("each TICK is a trap, but for alarms", x.traps(60), 60);
        // N, ALARM, the least, the greatest: one SEED alone has the one or the other; SEEDS 0 and 7 would be beyond.
        int[][] cases = {{6, 59, 0, 3}, {13, 8, 11, 13}, {1, 9, 0, 1}, {15, 94, 0, 2}, {2, 8, 1, 2}, {9, 92, 0, 2}, {5, 12, 3, 5},
            {2, 59, 0, 1}, {7, 5, 6, 7}, {1, 48, 0, 1}, {15, 80, 1, 6}, {7, 11, 6, 7}, {1, 1, 1, 1}, {2, 7, 2, 2}};
        for (int[] c : cases) {
            x.alarm(c[1]);
            x.seed(77);
            due.is("span of " + c[0] + ", the least", x.span(c[0], false), c[2]);
            due.is("span of " + c[0] + ", the greatest", x.span(c[0], true), c[3]);
            due.is("SEED stays", x.seed(1), 77);
        }
    }

    // put: 0 to as many as there are, 9 at most; the last one more
    private void tenPlaces() {
        GuestView x = Due.with("op rise;op drop");
        for (int length = 0; length <= 10; length++) {
            int place = length;
            due.throwing("a place beyond", BOUNDS, () -> x.put(place + 1, 0));
            due.throwing("a place ahead", BOUNDS, () -> x.put(-1, 0));
            due.is("as many", x.count(3), length);
            if (length < 10) {
                due.is("the last one more", x.put(length, length % 2), NONE);
                due.is("one more", x.count(3), length + 1);
                due.is("told again", x.put(length, 1), length % 2);
                due.is("none more", x.count(3), length + 1);
            }
        }
        due.throwing("place 10", BOUNDS, () -> x.put(10, 0));
        due.is("place 9", x.put(9, 0), 1);
        due.is("place 0", x.put(0, 0), 1);
        due.is("ten", x.count(3), 10);
        due.is("no eleventh", x.program(10), NONE);
    }

    // Behind each ACT but TICKS both guests BOOT, also where nothing is another one by it
    private void actsThatChangeNothing() {
        Use[] acts = {(x, n) -> bit(x.patch(2, true)), (x, n) -> bit(x.patch(0, false)), (x, n) -> bit(x.guard(0, true)),
            (x, n) -> bit(x.guard(1, false)), (x, n) -> x.put(0, 0), (x, n) -> x.store(0, 1), (x, n) -> x.vector(0),
            (x, n) -> x.shift(1), (x, n) -> x.cost(2), (x, n) -> x.alarm(0)};
        int[] answers = {0, 0, 0, 0, 0, 1, 0, 1, 2, 0};
        for (int k = 0; k < acts.length; k++) {
            GuestView x = rich();
            String before = Due.seen(x);
            due.is("act " + k + " that changes nothing", acts[k].of(x, 0), answers[k]);
            due.is("BOOT", x.guest(true, 0) * 10 + x.guest(false, 4), 0);
            due.is("it can be UNDONE", x.count(11), 3);
            due.is("TICK stays", x.count(8), 7);
            x.undo();
            due.is("all is as ahead of it", Due.seen(x), before);
        }
    }

    // UNDONE: all is as ahead of it
    private void eachActUndone() {
        Use[] acts = {(x, n) -> bit(x.patch(1, true)), (x, n) -> bit(x.guard(2, true)), (x, n) -> x.put(4, 2),
            (x, n) -> x.put(0, 3), (x, n) -> x.store(7, 3), (x, n) -> x.vector(9), (x, n) -> x.shift(3), (x, n) -> x.cost(7),
            (x, n) -> x.alarm(100), (x, n) -> x.ticks(60), (x, n) -> {
                x.boot();
                return 0;
            }};
        for (int k = 0; k < acts.length; k++) {
            GuestView x = rich();
            String before = Due.seen(x);
            acts[k].of(x, 0);
            due.is("something has changed by act " + k, Due.seen(x).equals(before), false);
            due.is("undo", x.undo(), true);
            due.is("all is as ahead of act " + k, Due.seen(x), before);
            due.is("the TAPE stays", x.end(20), true);
            due.is("guests go on as they were", x.ticks(60), 40);
            due.is("PURSE", x.count(9), 25 + 160);
        }
    }

    // all is as ahead of it: VIEWS with another BASE, MODE, CLOCK and CELLS than at BOOT, too
    private void registersKept() {
        GuestView x = Due.with("op add 1 move;op load 7 add 1 save 7;op guarded drop;op where;program 0 1 2 1 3 3;cells 0 0 0 0 0 0 0 3");
        x.ticks(4);
        // BASE 2 (HOSTED: 0): CELL 1 is 1, then 2 (HOSTED: CELL 7 is 0, then 1).
        int[][] views = {{4, 4}, {2, 1}, {0, 0}, {2, 0}, {4, 5}, {0, 0}, {0, 0}, {2, 0}, {0, 0}, {0, 0}, {0, 0}, {0, 0}, {0, 0}, {3, 1}};
        checkViews(x, views);
        x.image();
        due.is("nothing stays of trial", x.trial(2, true), 0);
        due.is("nothing stays of ahead", x.ahead(1, true), 5);
        checkViews(x, views);
        x.ticks(1);
        due.is("where, BARE", x.guest(false, 1), 1);
        due.is("where, HOSTED", x.guest(true, 1), 1);
        x.undo();
        checkViews(x, views);
        x.boot();
        x.undo();
        checkViews(x, views);
        x.boot();
        x.back();
        checkViews(x, views);
        x.ticks(1);
        due.is("where, BARE", x.guest(false, 1), 1);
        due.is("where, HOSTED", x.guest(true, 1), 1);
    }

    private void checkViews(GuestView x, int[][] views) {
        for (int what = 0; what <= 13; what++) {
            due.is("BARE, what " + what, x.guest(false, what), views[what][0]);
            due.is("HOSTED, what " + what, x.guest(true, what), views[what][1]);
        }
    }

    // 12 are remembered; TICKS of one call are one
    private void twelveActs() {
        GuestView x = new GuestView();
        due.is("none yet", x.undo(), false);
        for (int n = 1; n <= 14; n++) {
            due.is("acts", x.count(11), Math.min(12, n - 1));
            x.ticks(n);
        }
        due.is("twelve", x.count(11), 12);
        for (int n = 14; n >= 3; n--) {
            due.is("TICK", x.count(8), n * (n + 1) / 2);
            due.is("undo", x.undo(), true);
        }
        due.is("TICK ahead of the third", x.count(8), 3);
        due.is("the thirteenth", x.undo(), false);
        due.is("nothing happens", x.count(8), 3);
        due.is("none left", x.count(11), 0);
        x.ticks(1);
        x.ticks(1);
        due.is("undo", x.undo(), true);
        x.ticks(5);
        due.is("an UNDONE one makes room", x.count(11), 2);
        due.is("undo", x.undo(), true);
        due.is("undo", x.undo(), true);
        due.is("TICK", x.count(8), 3);
        due.is("no more", x.undo(), false);
    }

    // A text, going back: none are remembered
    private void noneRemembered() {
        GuestView x = rich();
        due.is("two", x.count(11), 2);
        due.wrongBench(x, "fly", 0);
        due.wrongLaw(x, "fly", 0);
        due.is("two behind wrong texts", x.count(11), 2);
        x.image();
        x.seed(4);
        Due.asked(x, 0, 0, 1);
        due.is("two: these are no acts", x.count(11), 2);
        Due.law(x, "");
        due.is("none behind a law", x.count(11), 0);
        due.is("none behind a law", x.undo(), false);
        x.boot();
        Due.bench(x, "");
        due.is("none behind a text", x.undo(), false);
        x.boot();
        due.is("back", x.back(), true);
        due.is("none behind going back", x.count(11), 0);
        due.is("none behind going back", x.undo(), false);
    }

    // back: false, and nothing happens, if none was kept; THE IMAGE (one) of all
    private void oneImage() {
        GuestView x = Due.with("op add 1;program 0 0 0");
        x.ticks(1);
        String before = Due.seen(x);
        due.is("none was kept", x.back(), false);
        due.is("nothing happens", Due.seen(x), before);
        x.image();
        due.is("nothing happens by keeping", Due.seen(x), before);
        x.ticks(1);
        x.seed(9);
        x.patch(0, true);
        x.guard(0, true);
        x.store(3, 3);
        Due.bench(x, "op rise;program 1 0 1;vector 3;shift 3;cost 5;alarm 50;purse 500");
        Due.law(x, "cost 1;worth 2;blame 3");
        x.ticks(30);
        due.is("back", x.back(), true);
        due.is("all but the acts", Due.seen(x), before.replace("count11=1", "count11=0"));
        x.ticks(1);
        due.is("back twice", x.back(), true);
        due.is("all but the acts", Due.seen(x), before.replace("count11=1", "count11=0"));
        x.ticks(2);
        x.image();
        due.is("the later one alone", x.back(), true);
        due.is("TICK", x.count(8), 3);
        x.undo();
        x.boot();
        x.undo();
        due.is("THE IMAGE stays by undo", x.back(), true);
        due.is("PC", x.guest(true, 0), 3);
    }

    // THE LAW names traits: whichever call comes first must know them
    private void lawsOfTraits() {
        String ops = "op add 1;op who;op guarded drop;op where;op time;program 2 1;purse 3";
        String law = "worth 4 if control + local > 0;cost 3 if sensitive;blame 2 if modal > 0;cost 5 if timed > 0";
        due.is("ticks", first(ops, law).ticks(2), 1);
        GuestView x = first(ops, law);
        x.ticks(1);
        due.is("PURSE", x.count(9), 3 + 5);
        due.is("CLOCK", x.guest(true, 4), 5);
        due.is("most", first(ops, law).most(1), 4);
        due.is("rests", first(ops, law).rests(1), 0);
        due.is("least", first(ops, law).least(), 2 + 8);
        due.is("open", first(ops, law).open(), 2);
        due.is("hostable", first(ops, law).hostable(), false);
        due.is("trial", first(ops, law).trial(1, false), 3 + 5);
        due.is("span", first(ops, law).span(1, true), 3 + 5);
        due.is("depth", first(ops, law).depth(1, 1), 1 + 4);
        due.is("traps", first(ops, law).traps(2), 1);
        due.is("leaks", first(ops, law).leaks(), NONE);
        due.is("proof", first(ops, law).proof(), 1002);
        due.is("witness", first(ops, law).witness(3, 2), 8);
        due.is("op", first(ops, law).op(3, 8), 4);
        due.is("which", Due.asked(first(ops, law), 0, 4, 1, 4, 1), 8);
        due.is("likely", Due.asked(first(ops, law), 1, 5, 1, 5, 1), 4);
        due.is("ahead", first(ops, law).ahead(1, true), 1);
    }

    private static GuestView first(String ops, String law) {
        GuestView x = Due.with(ops);
        Due.law(x, law);
        return x;
    }
}
