import java.lang.reflect.Method;
import java.util.Arrays;

/**
 * Boundary cases: calls told by name, so that what is wrong can be told too. What a refused call
 * changes is looked for by a twin of the object, to which the call was not made.
 */
final class Edges {
    static final int NOTHING = 1, BEYOND = 2, UNLIKE = 3, NOUGHT = 4, SIZE = 5;
    static final int MIN = Integer.MIN_VALUE, MAX = Integer.MAX_VALUE;

    private final Due due = new Due();

    void bad(Scene scene, String name, int... a) {
        refused(scene, LeatDays.BAD, 0, name, a);
    }

    void state(Scene scene, String name, int... a) {
        refused(scene, LeatDays.STATE, 0, name, a);
    }

    void full(Scene scene, String name, int... a) {
        refused(scene, LeatDays.FULL, 0, name, a);
    }

    void finds(Scene scene, int finding, String name, int... a) {
        refused(scene, LeatDays.FINDING, finding, name, a);
    }

    /** Argument i may be least to most: at these it is not BAD, outside it is, with the others as told. */
    void bounds(Scene scene, int i, int least, int most, String name, int... a) {
        for (int outside : new int[] {MIN, least - 1, most + 1, MAX}) {
            bad(scene, name, with(a, i, outside));
        }
        for (int inside : new int[] {least, most}) {
            int[] b = with(a, i, inside);
            boolean isBad = call(scene.make(), name, b) == LeatDays.BAD;
            due.is(scene + ": " + told(name, b) + " is BAD", isBad ? 1 : 0, 0);
        }
    }

    void is(LeatDays x, long want, String name, int... a) {
        due.is(told(name, a), call(x, name, a), want);
    }

    /** A call that is answered, whatever it says: no BAD, FULL, STATE, FINDING. */
    void answers(LeatDays x, String name, int... a) {
        long got = call(x, name, a);
        boolean refused = got == LeatDays.BAD || got == LeatDays.FULL || got == LeatDays.STATE || got == LeatDays.FINDING;
        due.is(told(name, a) + " is refused", refused ? 1 : 0, 0);
    }

    void tells(LeatDays x, long want, long asked, String name, int... a) {
        due.tells(told(name, a), x, call(x, name, a), want, asked);
    }

    void parts(LeatDays x, long upper, long lower, String name, int... a) {
        due.parts(told(name, a), x, call(x, name, a), upper, lower);
    }

    /** Refused with this answer on an object that no Scene makes; nothing that can be told is changed. */
    void refusedOn(LeatDays x, int answer, String name, int... a) {
        long digest = x.digest();
        int asked = x.asked();
        int finding = x.finding();
        is(x, answer, name, a);
        due.is(told(name, a) + " changes digest()", x.digest(), digest);
        due.is(told(name, a) + " changes asked()", x.asked(), asked);
        if (answer != LeatDays.FINDING) {
            due.is(told(name, a) + " changes finding()", x.finding(), finding);
        }
    }

    void findsOn(LeatDays x, int finding, String name, int... a) {
        int before = x.findings(finding);
        refusedOn(x, LeatDays.FINDING, name, a);
        due.is(told(name, a) + " by finding()", x.finding(), finding);
        due.is(told(name, a) + " by findings()", x.findings(finding), before + 1);
    }

    void counts(LeatDays x, int... want) {
        for (int what = 0; what < want.length; what++) {
            is(x, want[what], "count", what);
        }
    }

    /** ROW r has just these ints. */
    void row(LeatDays x, int r, int... want) {
        for (int i = 0; i < want.length; i++) {
            tells(x, 1, want[i], "at", r, i);
        }
        findsOn(x, BEYOND, "at", r, want.length);
    }

    void end() {
        due.end();
    }

    private void refused(Scene scene, int answer, int finding, String name, int... a) {
        LeatDays x = scene.make();
        LeatDays twin = scene.make();
        String call = scene + ": " + told(name, a);
        due.is(call, call(x, name, a), answer);
        due.is(call + ", then finding()", x.finding(), finding == 0 ? twin.finding() : finding);
        for (int f = 1; f <= 5; f++) {
            due.is(call + ", then findings(" + f + ")", x.findings(f), twin.findings(f) + (f == finding ? 1 : 0));
        }
        due.is(call + ", then asked()", x.asked(), twin.asked());
        due.is(call + ", then upper()", x.upper(), twin.upper());
        due.is(call + ", then lower()", x.lower(), twin.lower());
        sameDeeds(call, x, twin);
        for (int k = 0; k < 3; k++) {
            due.is(call + ", then on(" + k + ")", x.on(k), twin.on(k));
            sameDeeds(call + ", then on(" + k + ")", x, twin);
        }
    }

    /** The DEEDS themselves can't be seen: they are undone one by one. */
    private void sameDeeds(String call, LeatDays x, LeatDays twin) {
        due.is(call + ", then digest()", x.digest(), twin.digest());
        for (int n = twin.count(2) - 1; n >= 0; n--) {
            due.is(call + ", then undo(" + n + ")", x.undo(n), twin.undo(n));
            due.is(call + ", then undo(" + n + "), digest()", x.digest(), twin.digest());
        }
    }

    private static int[] with(int[] a, int i, int v) {
        int[] b = a.clone();
        b[i] = v;
        return b;
    }

    private static String told(String name, int... a) {
        String all = Arrays.toString(a);
        return name + "(" + all.substring(1, all.length() - 1) + ")";
    }

    private static long call(LeatDays x, String name, int... a) {
        Class<?>[] types = new Class<?>[a.length];
        Arrays.fill(types, int.class);
        Object[] boxed = new Object[a.length];
        for (int i = 0; i < a.length; i++) {
            boxed[i] = a[i];
        }
        try {
            Method method = LeatDays.class.getMethod(name, types);
            return ((Number) method.invoke(x, boxed)).longValue();
        } catch (ReflectiveOperationException e) {
            throw new IllegalStateException(told(name, a), e);
        }
    }
}
