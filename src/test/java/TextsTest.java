/** Promises 8 to 11: texts and leats. */
public final class TextsTest {
    private static final int NOTHING = 1, BEYOND = 2, SIZE = 5;
    private static final Due due = new Due();

    public static void main(String[] args) {
        text();
        put();
        faults();
        faultRefused();
        shorterAnew();
        leat();
        leatAnew();
        leatRefused();
        due.end();
    }

    private static void text() {
        LeatDays x = new LeatDays();
        due.is("text(0, 0)", x.text(0, 0), 0);
        due.is("text(3, 60)", x.text(3, 60), 60);
        due.is("count(9)", x.count(9), 2);
        due.is("text(4, 1)", x.text(4, 1), LeatDays.BAD);
        due.is("text(-1, 1)", x.text(-1, 1), LeatDays.BAD);
        due.is("text(0, 61)", x.text(0, 61), LeatDays.BAD);
        due.is("text(4, -1)", x.text(4, -1), LeatDays.BAD);
        due.is("finding()", x.finding(), 0);
        due.finds("text(0, -1)", x, x.text(0, -1), SIZE);
        due.is("put(3, 59, 65)", x.put(3, 59, 65), 1032);
        due.is("text(3, 60) anew", x.text(3, 60), 60);
        due.is("put(3, 59, 65) anew", x.put(3, 59, 65), 1032);
    }

    private static void put() {
        LeatDays x = new LeatDays();
        due.finds("put(0, 0, 1)", x, x.put(0, 0, 1), NOTHING);
        x.text(0, 2);
        due.is("put(0, 1, 127)", x.put(0, 1, 127), 1032);
        due.is("put(0, 1, 128)", x.put(0, 1, 128), 1127);
        due.is("put(0, 1, 255)", x.put(0, 1, 255), 872);
        due.is("put(0, 1, 256 + 100)", x.put(0, 1, 356), 999);
        due.is("put(0, 1, -300)", x.put(0, 1, -300), 1100);
        due.is("put(0, 1, 0)", x.put(0, 1, 0), 956);
        due.is("put(0, 1, 0) again", x.put(0, 1, 0), 1000);
        due.finds("put(0, 2, 1)", x, x.put(0, 2, 1), BEYOND);
        due.finds("put(0, -1, 1)", x, x.put(0, -1, 1), BEYOND);
        due.is("put(4, 0, 1)", x.put(4, 0, 1), LeatDays.BAD);
        due.is("put(-1, 0, 1)", x.put(-1, 0, 1), LeatDays.BAD);
    }

    private static void faults() {
        noFault("d12f34");
        noFault("  d12   f34  ");
        noFault("d00d99");
        noFault("d12f34r56p78e90h12d34d56d78");
        noFault("d12f34r56p78e90h12d34d56d78 ");
        fault("", 0);
        fault("   ", 3);
        fault("d12", 3);
        fault(" d12  ", 6);
        fault("d", 1);
        fault("d1", 2);
        fault("d12f", 4);
        fault("d12f3", 5);
        fault("d12 f3 ", 6);
        fault("d12 f 3", 5);
        fault("d 12f34", 1);
        fault("dd12", 1);
        fault("D12f34", 0);
        fault("d12g34", 3);
        fault("d12f34x", 6);
        fault("d123f4", 3);
        fault("d12f/4", 4);
        fault("d12f4:", 5);
        fault("12", 0);
        fault("d12f34r56p78e90h12d34d56d78d90", 27);
        fault("d12f34r56p78e90h12d34d56d78  d", 29);
        fault("d12f34r56p78e90h12d34d56d78 x", 28);
        fault("d12\tf34", 3);
    }

    private static void noFault(String text) {
        fault(text, LeatDays.NONE);
    }

    private static void fault(String text, int want) {
        LeatDays x = new LeatDays();
        Due.write(x, 2, text);
        due.is("fault of '" + text + "'", x.fault(2), want);
        int days = 0;
        for (int i = 0; i < text.length(); i++) {
            days += Character.isLetter(text.charAt(i)) ? 1 : 0;
        }
        due.is("leat of '" + text + "'", x.leat(2), want == LeatDays.NONE ? days : LeatDays.STATE);
        due.is("finding() of '" + text + "'", x.finding(), 0);
    }

    private static void faultRefused() {
        LeatDays x = new LeatDays();
        due.is("fault(4)", x.fault(4), LeatDays.BAD);
        due.is("fault(-1)", x.fault(-1), LeatDays.BAD);
        due.finds("fault(3)", x, x.fault(3), NOTHING);
        x.text(3, 8);
        // A byte that is cut from above 127 is none of the letters, figures, blanks.
        x.put(3, 0, 'd' + 128);
        due.is("fault of a byte below 0", x.fault(3), 0);
        x.put(3, 0, 'd' + 256);
        due.is("fault behind a cut letter", x.fault(3), 1);
    }

    /** What stood behind a shorter TEXT's end is gone. */
    private static void shorterAnew() {
        LeatDays x = new LeatDays();
        Due.write(x, 0, "d12f34");
        Due.write(x, 0, "d12f3");
        due.is("fault of a shorter TEXT", x.fault(0), 5);
        Due.write(x, 0, "d12f");
        due.is("fault of a still shorter TEXT", x.fault(0), 4);
        x.text(0, 6);
        due.is("fault of blanks anew", x.fault(0), 6);
    }

    private static void leat() {
        LeatDays x = Due.leat(" d12 f34r56p78 e90h11 ");
        int[][] want = {{0, 1, 2}, {1, 3, 4}, {2, 5, 6}, {3, 7, 8}, {4, 9, 0}, {5, 1, 1}};
        for (int k = 0; k < want.length; k++) {
            for (int what = 0; what < 3; what++) {
                due.tells("day(" + k + ", " + what + ")", x, x.day(k, what), 1, want[k][what]);
            }
        }
        int[] counts = {6, 0, 0, 2, 0, 0, 0, 0, 0, 1, 0, 2, 2};
        for (int what = 0; what < counts.length; what++) {
            due.is("count(" + what + ")", x.count(what), counts[what]);
        }
    }

    private static void leatAnew() {
        LeatDays x = Due.leat("d00p12e34");
        x.step();
        x.hatch(4);
        x.fish(1);
        x.keep(0);
        x.keep(2);
        x.step();
        Due.write(x, 1, "h91f22");
        x.day(0, 1);
        due.is("leat(1)", x.leat(1), 2);
        int[] counts = {2, 0, 0, 2, 0, 0, 0, 0, 0, 2, 0, 1, 1};
        for (int what = 0; what < counts.length; what++) {
            due.is("anew: count(" + what + ")", x.count(what), counts[what]);
        }
        due.finds("anew: on(0)", x, x.on(0), NOTHING);
        due.is("anew: undo(1)", x.undo(1), LeatDays.BAD);
        due.tells("anew: day(0, 1)", x, x.day(0, 1), 1, 9);
        x.text(1, 0);
        due.tells("the TEXT gone: day(0, 1)", x, x.day(0, 1), 1, 9);
    }

    private static void leatRefused() {
        LeatDays x = Due.leat("d12d34");
        x.step();
        x.keep(1);
        Due.write(x, 1, "d12");
        long before = x.digest();
        due.is("leat(4)", x.leat(4), LeatDays.BAD);
        due.is("leat(-1)", x.leat(-1), LeatDays.BAD);
        due.is("leat(1)", x.leat(1), LeatDays.STATE);
        due.finds("leat(2)", x, x.leat(2), NOTHING);
        due.is("digest() behind refusals", x.digest(), before);
    }
}
