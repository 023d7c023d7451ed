/** Holds what is answered against what is due, and ends a test. */
final class Due {
    private int wrong = 0;
    private int asked = 0;

    void is(String call, long got, long want) {
        asked++;
        if (got != want) {
            wrong++;
            System.out.println(call + " answered " + got + ", due is " + want);
        }
    }

    /** A call that answers want and tells it by asked(). */
    void tells(String call, LeatDays x, long got, long want, long told) {
        is(call, got, want);
        is(call + " by asked()", x.asked(), told);
    }

    /** A call that answers FINDING, the latest of which is f. */
    void finds(String call, LeatDays x, long got, int f) {
        is(call, got, LeatDays.FINDING);
        is(call + " by finding()", x.finding(), f);
    }

    /** A call that tells a chance or a mean. */
    void parts(String call, LeatDays x, long got, long upper, long lower) {
        is(call, got, 1);
        is(call + " by upper()", x.upper(), upper);
        is(call + " by lower()", x.lower(), lower);
    }

    void end() {
        System.out.println(wrong == 0 ? asked + " answers as due" : wrong + " of " + asked + " wrong");
        if (wrong != 0) {
            System.exit(1);
        }
    }

    static void write(LeatDays x, int t, String text) {
        x.text(t, text.length());
        for (int i = 0; i < text.length(); i++) {
            x.put(t, i, text.charAt(i));
        }
    }

    static void row(LeatDays x, int r, int... numbers) {
        x.row(r, numbers.length);
        for (int i = 0; i < numbers.length; i++) {
            x.lay(r, i, numbers[i]);
        }
    }

    /** A new object with a LEAT by TEXT 0. */
    static LeatDays leat(String text) {
        LeatDays x = new LeatDays();
        write(x, 0, text);
        int days = x.leat(0);
        if (days < 2) {
            throw new IllegalStateException("not a leat: " + text + " (" + days + ")");
        }
        return x;
    }
}
