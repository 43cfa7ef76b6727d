/** What the tests of the project share: compares answers, and tells how it ended. */
final class Due {
    /** A call that may throw. */
    interface Call {
        long answer();
    }

    private int wrong;
    private int asked;

    void is(String what, long got, long want) {
        asked++;
        if (got != want) {
            wrong++;
            System.out.println(what + " answered " + got + ", due is " + want);
        }
    }

    void is(String what, boolean got, boolean want) {
        is(what, got ? 1 : 0, want ? 1 : 0);
    }

    void is(String what, String got, String want) {
        asked++;
        if (!got.equals(want)) {
            wrong++;
            System.out.println(what + " answered" + got + ", due is" + want);
        }
    }

    /** The call must throw exactly this. */
    void throwing(String what, Class<?> due, Call call) {
        asked++;
        String got;
        try {
            got = "" + call.answer();
        } catch (RuntimeException e) {
            if (e.getClass() == due) {
                return;
            }
            got = e.toString();
        }
        wrong++;
        System.out.println(what + " answered " + got + ", due is " + due.getSimpleName());
    }

    void finish() {
        System.out.println(wrong == 0 ? asked + " answers are as due" : wrong + " of " + asked + " answers are not as due");
        if (wrong != 0) {
            System.exit(1);
        }
    }

    /** Puts a text on the TAPE. */
    static void tape(GuestView x, String text) {
        byte[] bytes = new byte[text.length()];
        for (int i = 0; i < bytes.length; i++) {
            bytes[i] = (byte) text.charAt(i);
        }
        tape(x, bytes);
    }

    static void tape(GuestView x, byte[] bytes) {
        x.end(0);
        for (int from = 0; from < bytes.length; from += 20) {
            int[] n = new int[5];
            for (int i = 0; i < 20; i++) {
                int b = from + i < bytes.length ? bytes[from + i] & 255 : 0;
                n[i / 4] |= b << (24 - 8 * (i % 4));
            }
            x.feed(n[0], n[1], n[2], n[3], n[4]);
        }
        x.end(bytes.length);
    }

    static int bench(GuestView x, String text) {
        tape(x, text);
        return x.bench();
    }

    static int law(GuestView x, String text) {
        tape(x, text);
        return x.law();
    }

    /** A new object that has read some texts of THE BENCH. */
    static GuestView with(String... texts) {
        GuestView x = new GuestView();
        for (String text : texts) {
            bench(x, text);
        }
        return x;
    }

    void wrongBench(GuestView x, String text, int at) {
        tape(x, text);
        throwing("bench '" + text + "'", IllegalArgumentException.class, x::bench);
        is("fault of '" + text + "'", x.fault(), at);
        is("the tape is used up", x.end(1), false);
    }

    void wrongLaw(GuestView x, String text, int at) {
        tape(x, text);
        throwing("law '" + text + "'", IllegalArgumentException.class, x::law);
        is("fault of '" + text + "'", x.fault(), at);
        is("the tape is used up", x.end(1), false);
    }

    /** Lays rows on the TAPE, for which (0), likely (1) or ask (2). */
    static int asked(GuestView x, int call, int... bytes) {
        byte[] row = new byte[bytes.length];
        for (int i = 0; i < row.length; i++) {
            row[i] = (byte) bytes[i];
        }
        tape(x, row);
        return call == 0 ? x.which() : call == 1 ? x.likely() : x.ask();
    }

    /** All that an object tells of itself but for fault() and the TAPE; no more than 120 calls, nothing stays of them. */
    static String seen(GuestView x) {
        StringBuilder b = new StringBuilder();
        for (int what = 0; what <= 11; what++) {
            b.append(" count").append(what).append('=').append(x.count(what));
        }
        for (int k = 0; k < x.count(3); k++) {
            b.append(" program").append(k).append('=').append(x.program(k));
        }
        for (int k = 0; k < 8; k++) {
            b.append(" cell").append(k).append('=').append(x.cell(k));
        }
        for (int what = 0; what <= 13; what++) {
            b.append(" guest").append(what).append('=').append(x.guest(false, what)).append('/').append(x.guest(true, what));
        }
        for (int op = 0; op < x.count(0); op++) {
            b.append(" op").append(op).append('=').append(x.op(op, 1)).append(x.op(op, 2));
            b.append('/').append(x.op(op, 8)).append('/').append(x.op(op, 9)).append('/').append(x.op(op, 10));
        }
        for (int ago = 0; ago < 3; ago++) {
            b.append(" log").append(ago).append('=').append(x.log(ago, 0)).append('/').append(x.log(ago, 1));
            b.append('/').append(x.log(ago, 2)).append('/').append(x.log(ago, 3));
        }
        int seed = x.seed(0);
        x.seed(seed);
        return b.append(" seed=").append(seed).toString();
    }
}
