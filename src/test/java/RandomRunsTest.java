import java.util.Random;

/** Long runs of calls on an object and on the plain model beside it: both must answer alike. */
public final class RandomRunsTest {
    private static final int RUNS = 1200;
    // What an object answers behind so many calls is free; one turn takes 23 at most.
    private static final int CALLS = 512 - 23;
    private static final int[] ENDS = {Integer.MIN_VALUE, -2, -1, 61, 100, 101, 512, 1000, Integer.MAX_VALUE};

    private final Random random;
    // In every other run most acts are TICKS, so that guests get far from BOOT and THE LOG fills.
    private final boolean ticking;
    private final GuestView x = new GuestView();
    private final Model m = new Model();
    private String call = "";
    private int calls;

    private RandomRunsTest(long seed) {
        random = new Random(seed);
        ticking = seed % 2 == 1;
    }

    public static void main(String[] args) {
        for (int run = 0; run < RUNS; run++) {
            RandomRunsTest test = new RandomRunsTest(run);
            StringBuilder told = new StringBuilder();
            for (int i = 0; test.calls <= CALLS; i++) {
                String[] both = test.one(i);
                told.append(test.call).append(" -> ").append(both[1]).append('\n');
                if (!both[0].equals(both[1])) {
                    System.out.print(told);
                    System.out.println("run " + run + ": " + test.call + " answered " + both[0] + ", due is " + both[1]);
                    System.exit(1);
                }
            }
        }
        System.out.println(RUNS + " runs answered as the model");
    }

    private int upTo(int n) {
        return random.nextInt(n + 1);
    }

    private boolean coin() {
        return random.nextBoolean();
    }

    /** Mostly a number of a range, now and then one beside it. */
    private int near(int least, int most) {
        if (random.nextInt(25) == 0) {
            return coin() ? ENDS[random.nextInt(ENDS.length)] : coin() ? least - 1 : most + 1;
        }
        return least + random.nextInt(most - least + 1);
    }

    private int anOp() {
        return near(0, Math.max(0, m.count(0) - 1));
    }

    private String word() {
        String[] words = {"op", "guarded", "add", "7", "program", "if", "not", "(", ")", "<", ";", "cost", "41", "0001", "fly", "#"};
        return words[random.nextInt(words.length)];
    }

    private String micro() {
        int kind = upTo(10);
        boolean counts = kind <= 2 || kind == 9;
        return Model.MICROS.get(kind) + (counts ? gap() + upTo(7) : "");
    }

    private String gap() {
        return random.nextInt(4) == 0 ? "  " : " ";
    }

    private String benchLine(int[] ops) {
        StringBuilder b = new StringBuilder();
        int sort = ops[0] < 3 ? 0 : upTo(9);
        if (sort <= 2 && (ops[0] < 8 || random.nextInt(20) == 0)) {
            b.append("op").append(gap());
            if (random.nextInt(3) == 0) {
                b.append("guarded").append(gap());
            }
            int micros = 1 + upTo(random.nextInt(30) == 0 ? 3 : 2);
            for (int i = 0; i < micros; i++) {
                b.append(micro()).append(gap());
            }
            ops[0]++;
        } else if (sort <= 4) {
            b.append("program");
            int size = random.nextInt(30) == 0 ? 11 : upTo(10);
            for (int i = 0; i < size; i++) {
                b.append(gap()).append(random.nextInt(60) == 0 ? ops[0] : upTo(ops[0] - 1));
            }
        } else if (sort == 5) {
            b.append("cells");
            int size = random.nextInt(30) == 0 ? 9 : 1 + upTo(7);
            for (int i = 0; i < size; i++) {
                b.append(gap()).append(upTo(3));
            }
        } else {
            String[] words = {"vector", "shift", "cost", "alarm", "purse"};
            int[] most = {9, 3, 7, 100, 999};
            int k = upTo(4);
            b.append(words[k]).append(coin() ? gap() : "").append(upTo(most[k] + (random.nextInt(20) == 0 ? 1 : 0)));
        }
        return b.toString();
    }

    private String benchText() {
        StringBuilder b = new StringBuilder();
        int lines = random.nextInt(25) == 0 ? 15 : upTo(8);
        int[] ops = {m.count(0)};
        for (int i = 0; i < lines; i++) {
            b.append(i > 0 ? ";" : "").append(benchLine(ops));
        }
        return b.toString();
    }

    private String part() {
        String[] words = {"op", "micros", "control", "modal", "local", "timed", "uses"};
        return coin() ? words[random.nextInt(words.length)] : "" + upTo(random.nextInt(8) == 0 ? 1000 : 4);
    }

    private String sum() {
        return random.nextInt(3) == 0 ? part() + " + " + part() : part();
    }

    private String condition(int deep) {
        switch (upTo(deep > 6 ? 3 : 7)) {
            case 0: return "guarded";
            case 1: return coin() ? "patched" : "sensitive";
            case 2: return sum() + " < " + sum();
            case 3: return sum() + ">" + sum();
            case 4: return "not " + condition(deep + 1);
            case 5: return "(" + condition(deep + 1) + ")";
            case 6: return condition(deep + 1) + " or " + condition(deep + 1);
            default: return condition(deep + 1) + " and " + condition(deep + 1);
        }
    }

    private String lawText() {
        StringBuilder b = new StringBuilder();
        int lines = random.nextInt(25) == 0 ? 13 : upTo(8);
        String[] words = {"cost ", "blame ", "worth "};
        for (int i = 0; i < lines && b.length() < 320; i++) {
            b.append(i > 0 ? " ; " : "").append(words[upTo(2)]).append(upTo(random.nextInt(40) == 0 ? 41 : 7));
            if (random.nextInt(4) > 0) {
                b.append(" if ").append(condition(random.nextInt(6)));
            }
        }
        return b.toString();
    }

    private String spoil(String text) {
        int way = random.nextInt(40);
        int at = upTo(text.length());
        if (way == 0) {
            return text.substring(0, at);
        }
        if (way == 1) {
            return text.substring(0, at) + word() + text.substring(at);
        }
        if (way == 2) {
            return text.substring(0, at) + (char) upTo(255) + text.substring(at);
        }
        return text;
    }

    private String rows() {
        StringBuilder b = new StringBuilder();
        int size = random.nextInt(20) == 0 ? 21 : upTo(6);
        for (int i = 0; i < size; i++) {
            int what = near(0, 6);
            int much = what == 6 ? near(0, 10) : what == 0 ? near(1, 3) : upTo(1);
            b.append((char) (what & 255)).append((char) (much & 255));
        }
        return random.nextInt(25) == 0 ? b.append('a').toString() : b.toString();
    }

    /** Lays a text on both TAPES. */
    private void tape(String text) {
        String cut = text.length() > 400 ? text.substring(0, 400) : text;
        x.end(0);
        m.end(0);
        for (int from = 0; from < cut.length(); from += 20) {
            int[] n = new int[5];
            for (int i = 0; i < 20 && from + i < cut.length(); i++) {
                n[i / 4] |= cut.charAt(from + i) << 24 - 8 * (i % 4);
            }
            x.feed(n[0], n[1], n[2], n[3], n[4]);
            m.feed(n);
            calls++;
        }
        x.end(cut.length());
        m.end(cut.length());
        calls += 2;
        call = "'" + cut + "' ";
    }

    private String[] both(String name, Due.Call mine, Due.Call models) {
        call += name;
        calls++;
        return new String[] {answer(mine), answer(models)};
    }

    private static String answer(Due.Call c) {
        try {
            return "" + c.answer();
        } catch (RuntimeException e) {
            return e.getClass().getSimpleName();
        }
    }

    private static long bit(boolean is) {
        return is ? 1 : 0;
    }

    private String[] one(int i) {
        call = "";
        int sort = i == 0 ? 0 : i == 1 ? 2 : ticking && random.nextInt(6) > 0 ? 4 + random.nextInt(96) : random.nextInt(100);
        if (sort < 2) {
            tape(spoil(benchText()));
            return both("bench()", x::bench, m::bench);
        }
        if (sort < 4) {
            tape(spoil(lawText()));
            return both("law()", x::law, m::law);
        }
        if (sort < 8) {
            return tapeCall();
        }
        if (sort < 30) {
            return act();
        }
        if (sort < 70) {
            return question();
        }
        return coin() ? farQuestion() : rowQuestion();
    }

    private String[] tapeCall() {
        int way = upTo(4);
        if (way < 3) {
            tape(rows());
            return way == 0 ? both("which()", x::which, m::which)
                : way == 1 ? both("likely()", x::likely, m::likely) : both("ask()", x::ask, m::ask);
        }
        if (way == 3) {
            int n = random.nextInt();
            int k = random.nextInt();
            return both("feed " + n + " " + k, () -> x.feed(n, k, 0, n, k), () -> m.feed(n, k, 0, n, k));
        }
        int n = near(0, 30);
        return both("end " + n, () -> bit(x.end(n)), () -> bit(m.end(n)));
    }

    private String[] act() {
        int op = anOp();
        boolean is = coin();
        switch (ticking && random.nextInt(4) > 0 ? 14 : upTo(14)) {
            case 0: return both("boot", () -> { x.boot(); return 0; }, () -> { m.boot(); return 0; });
            case 1: return both("patch " + op + is, () -> bit(x.patch(op, is)), () -> bit(m.patch(op, is)));
            case 2: return both("guard " + op + is, () -> bit(x.guard(op, is)), () -> bit(m.guard(op, is)));
            case 3: {
                int place = near(0, Math.min(9, m.count(3)));
                return both("put " + place + " " + op, () -> x.put(place, op), () -> m.put(place, op));
            }
            case 4: {
                int cell = near(0, 7);
                int n = near(0, 3);
                return both("store " + cell + " " + n, () -> x.store(cell, n), () -> m.store(cell, n));
            }
            case 5: {
                int n = near(0, 9);
                return both("vector " + n, () -> x.vector(n), () -> m.set("vector", n));
            }
            case 6: {
                int n = near(0, 3);
                return both("shift " + n, () -> x.shift(n), () -> m.set("shift", n));
            }
            case 7: {
                int n = near(0, 7);
                return both("cost " + n, () -> x.cost(n), () -> m.set("cost", n));
            }
            case 8: {
                int n = coin() ? near(0, 100) : near(0, 20);
                return both("alarm " + n, () -> x.alarm(n), () -> m.set("alarm", n));
            }
            case 9: return both("undo", () -> bit(x.undo()), () -> bit(m.undo()));
            case 10: {
                if (random.nextInt(4) == 0) {
                    return both("back", () -> bit(x.back()), () -> bit(m.back()));
                }
                return both("image", () -> { x.image(); return 0; }, () -> { m.image(); return 0; });
            }
            case 11: {
                int n = random.nextInt();
                return both("seed " + n, () -> x.seed(n), () -> m.seed(n));
            }
            default: {
                int n = coin() ? near(1, 60) : near(1, 4);
                return both("ticks " + n, () -> x.ticks(n), () -> m.ticks(n));
            }
        }
    }

    private String[] question() {
        int op = anOp();
        boolean is = coin();
        switch (upTo(11)) {
            case 0: return both("fault", x::fault, m::fault);
            case 1: {
                int what = near(0, 12);
                return both("op " + op + " " + what, () -> x.op(op, what), () -> m.op(op, what));
            }
            case 2: {
                int k = near(0, 2);
                return both("micro " + op + " " + k + is, () -> x.micro(op, k, is), () -> m.micro(op, k, is));
            }
            case 3: {
                int what = near(0, 3);
                return both("witness " + op + " " + what, () -> x.witness(op, what), () -> m.witness(op, what));
            }
            case 4: {
                int state = near(0, 511);
                int what = near(0, 12);
                return both("done " + op + " " + state + " " + what, () -> x.done(op, state, what), () -> m.done(op, state, what));
            }
            case 5: {
                int k = near(0, 9);
                return both("program " + k, () -> x.program(k), () -> m.program(k));
            }
            case 6: {
                int k = near(0, 7);
                return both("cell " + k, () -> x.cell(k), () -> m.cell(k));
            }
            case 7: case 8: {
                int what = near(0, 13);
                return both("guest " + is + what, () -> x.guest(is, what), () -> m.guest(is, what));
            }
            case 9: return both("alike", () -> bit(x.alike()), () -> bit(m.alike()));
            default: {
                int what = near(0, 11);
                return both("count " + what, () -> x.count(what), () -> m.count(what));
            }
        }
    }

    private String[] farQuestion() {
        int n = near(0, 60);
        boolean is = coin();
        switch (upTo(8)) {
            case 0: return both("leaks", x::leaks, m::leaks);
            case 1: return both("traps " + n, () -> x.traps(n), () -> m.traps(n));
            case 2: {
                int d = near(0, 5);
                return both("depth " + n + " " + d, () -> x.depth(n, d), () -> m.depth(n, d));
            }
            case 3: return random.nextInt(6) == 0 ? both("proof", x::proof, m::proof) : both("least", x::least, m::least);
            case 4: return both("ahead " + n + is, () -> x.ahead(n, is), () -> m.ahead(n, is));
            case 5: return both("trial " + n + is, () -> x.trial(n, is), () -> m.trial(n, is));
            case 6: return both("span " + n + is, () -> x.span(n, is), () -> m.span(n, is));
            case 7: return both("hostable", () -> bit(x.hostable()), () -> bit(m.hostable()));
            default: return both("open", x::open, m::open);
        }
    }

    private String[] rowQuestion() {
        int op = anOp();
        boolean is = coin();
        switch (upTo(9)) {
            case 0: {
                int other = anOp();
                return both("clash " + op + " " + other, () -> bit(x.clash(op, other)), () -> bit(m.clash(op, other)));
            }
            case 1: return both("beside", x::beside, m::beside);
            case 2: return is ? both("lead", x::lead, m::lead) : both("side", x::side, m::side);
            case 3: {
                int one = random.nextInt(5) == 0 ? -1 : op;
                return both("pairs " + one, () -> x.pairs(one), () -> m.pairs(one));
            }
            case 4: return both("rests " + op, () -> x.rests(op), () -> m.rests(op));
            case 5: {
                int n = near(0, 5);
                int k = near(0, 5);
                return both("odds " + n + " " + k, () -> x.odds(n, k), () -> m.odds(n, k));
            }
            case 6: {
                int what = near(0, 2);
                return both("most " + what, () -> x.most(what), () -> m.most(what));
            }
            case 7: return both("twins", x::twins, m::twins);
            case 8: return both("led " + op + is, () -> x.led(op, is), () -> m.led(op, is));
            default: {
                int ago = near(0, 59);
                int what = near(0, 3);
                return both("log " + ago + " " + what, () -> x.log(ago, what), () -> m.log(ago, what));
            }
        }
    }
}
