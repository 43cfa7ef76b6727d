/** What the tests of the project share: compares answers, and tells how it ended. */
final class Due {
    /** A call that may throw. */
    interface Call {
        long answer();
    }

    private int wrong;
    private int asked;

    void is(String what, long got, long want) {
        asked++;
        if (got != want) {
            wrong++;
            System.out.println(what + " answered " + got + ", due is " + want);
        }
    }

    void is(String what, boolean got, boolean want) {
        is(what, got ? 1 : 0, want ? 1 : 0);
    }

    /** The call must throw exactly this. */
    void throwing(String what, Class<?> due, Call call) {
        asked++;
        String got;
        try {
            got = "" + call.answer();
        } catch (RuntimeException e) {
            if (e.getClass() == due) {
                return;
            }
            got = e.toString();
        }
        wrong++;
        System.out.println(what + " answered " + got + ", due is " + due.getSimpleName());
    }

    void finish() {
        System.out.println(wrong == 0 ? asked + " answers are as due" : wrong + " of " + asked + " answers are not as due");
        if (wrong != 0) {
            System.exit(1);
        }
    }

    /** Puts a text on the TAPE. */
    static void tape(GuestView x, String text) {
        byte[] bytes = new byte[text.length()];
        for (int i = 0; i < bytes.length; i++) {
            bytes[i] = (byte) text.charAt(i);
        }
        tape(x, bytes);
    }

    static void tape(GuestView x, byte[] bytes) {
        x.end(0);
        for (int from = 0; from < bytes.length; from += 20) {
            int[] n = new int[5];
            for (int i = 0; i < 20; i++) {
                int b = from + i < bytes.length ? bytes[from + i] & 255 : 0;
                n[i / 4] |= b << (24 - 8 * (i % 4));
            }
            x.feed(n[0], n[1], n[2], n[3], n[4]);
        }
        x.end(bytes.length);
    }

    static int bench(GuestView x, String text) {
        tape(x, text);
        return x.bench();
    }

    static int law(GuestView x, String text) {
        tape(x, text);
        return x.law();
    }
}
