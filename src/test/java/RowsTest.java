/** Promises 1 to 7: a new object, rows. */
public final class RowsTest {
    private static final int NOTHING = 1, BEYOND = 2, NOUGHT = 4, SIZE = 5;
    private static final Due due = new Due();

    public static void main(String[] args) {
        newObject();
        row();
        layAndAt();
        tear();
        copy();
        copyWithinItself();
        mean();
        refusedChangesNothing();
        due.end();
    }

    private static void newObject() {
        LeatDays x = new LeatDays();
        for (int what = 0; what <= 12; what++) {
            due.is("new: count(" + what + ")", x.count(what), 0);
        }
        for (int r = 0; r < 6; r++) {
            due.finds("new: tear(" + r + ")", x, x.tear(r), NOTHING);
        }
        for (int t = 0; t < 4; t++) {
            due.finds("new: fault(" + t + ")", x, x.fault(t), NOTHING);
        }
        for (int k = 0; k < 3; k++) {
            due.finds("new: on(" + k + ")", x, x.on(k), NOTHING);
        }
        due.is("new: step()", x.step(), LeatDays.STATE);
    }

    private static void row() {
        LeatDays x = new LeatDays();
        due.is("row(0, 0)", x.row(0, 0), 0);
        due.is("row(5, 40)", x.row(5, 40), 40);
        due.is("count(8)", x.count(8), 2);
        due.is("row(-1, 1)", x.row(-1, 1), LeatDays.BAD);
        due.is("row(6, 1)", x.row(6, 1), LeatDays.BAD);
        due.is("row(0, 41)", x.row(0, 41), LeatDays.BAD);
        due.is("row(6, -1)", x.row(6, -1), LeatDays.BAD);
        due.is("row(0, max)", x.row(0, Integer.MAX_VALUE), LeatDays.BAD);
        due.is("finding()", x.finding(), 0);
        due.finds("row(0, -1)", x, x.row(0, -1), SIZE);
        due.finds("row(0, min)", x, x.row(0, Integer.MIN_VALUE), SIZE);
        x.lay(5, 39, 7);
        due.is("row(5, 40) anew", x.row(5, 40), 40);
        due.tells("at(5, 39)", x, x.at(5, 39), 1, 0);
    }

    private static void layAndAt() {
        LeatDays x = new LeatDays();
        due.finds("lay(0, 0, 1)", x, x.lay(0, 0, 1), NOTHING);
        due.finds("at(0, 0)", x, x.at(0, 0), NOTHING);
        due.finds("lay(0, -1, 1) of none", x, x.lay(0, -1, 1), NOTHING);
        x.row(0, 3);
        due.tells("lay(0, 2, -5)", x, x.lay(0, 2, -5), 1, 0);
        due.tells("lay(0, 2, max)", x, x.lay(0, 2, Integer.MAX_VALUE), 1, -5);
        due.tells("at(0, 2)", x, x.at(0, 2), 1, Integer.MAX_VALUE);
        due.tells("at(0, 0)", x, x.at(0, 0), 1, 0);
        due.finds("lay(0, 3, 1)", x, x.lay(0, 3, 1), BEYOND);
        due.finds("lay(0, -1, 1)", x, x.lay(0, -1, 1), BEYOND);
        due.finds("at(0, 3)", x, x.at(0, 3), BEYOND);
        due.finds("at(0, min)", x, x.at(0, Integer.MIN_VALUE), BEYOND);
        due.finds("at(0, max)", x, x.at(0, Integer.MAX_VALUE), BEYOND);
        due.is("lay(6, 0, 0)", x.lay(6, 0, 0), LeatDays.BAD);
        due.is("lay(-1, 0, 0)", x.lay(-1, 0, 0), LeatDays.BAD);
        due.is("at(6, 0)", x.at(6, 0), LeatDays.BAD);
        due.is("at(-1, 0)", x.at(-1, 0), LeatDays.BAD);
    }

    private static void tear() {
        LeatDays x = new LeatDays();
        x.row(1, 2);
        x.row(2, 0);
        due.is("tear(1)", x.tear(1), 1);
        due.is("count(8)", x.count(8), 1);
        due.finds("tear(1) again", x, x.tear(1), NOTHING);
        due.finds("at(1, 0)", x, x.at(1, 0), NOTHING);
        due.is("tear(2)", x.tear(2), 1);
        due.is("tear(6)", x.tear(6), LeatDays.BAD);
        due.is("tear(-1)", x.tear(-1), LeatDays.BAD);
    }

    private static void copy() {
        LeatDays x = new LeatDays();
        Due.row(x, 0, 1, 2, 3, 4);
        Due.row(x, 1, 9, 9, 9);
        due.is("copy(0, 1, 1, 0, 2)", x.copy(0, 1, 1, 0, 2), 1);
        sameRow("copied", x, 1, 2, 3, 9);
        sameRow("copied from", x, 0, 1, 2, 3, 4);
        due.is("copy(0, 4, 1, 3, 0)", x.copy(0, 4, 1, 3, 0), 1);
        due.finds("copy(0, 5, 1, 0, 0)", x, x.copy(0, 5, 1, 0, 0), BEYOND);
        due.finds("copy(0, 3, 1, 0, 2)", x, x.copy(0, 3, 1, 0, 2), BEYOND);
        due.finds("copy(0, 0, 1, 2, 2)", x, x.copy(0, 0, 1, 2, 2), BEYOND);
        due.finds("copy(0, -1, 1, 0, 1)", x, x.copy(0, -1, 1, 0, 1), BEYOND);
        due.finds("copy(0, 0, 1, -1, 1)", x, x.copy(0, 0, 1, -1, 1), BEYOND);
        int max = Integer.MAX_VALUE;
        due.finds("copy(0, max, 1, 0, max)", x, x.copy(0, max, 1, 0, max), BEYOND);
        due.finds("copy(0, 1, 1, 1, max)", x, x.copy(0, 1, 1, 1, max), BEYOND);
        due.finds("copy(0, 0, 2, 0, 0)", x, x.copy(0, 0, 2, 0, 0), NOTHING);
        due.finds("copy(2, 0, 0, 0, 0)", x, x.copy(2, 0, 0, 0, 0), NOTHING);
        due.finds("copy(2, 9, 0, 9, 9)", x, x.copy(2, 9, 0, 9, 9), NOTHING);
        due.finds("copy(2, 0, 0, 0, -1)", x, x.copy(2, 0, 0, 0, -1), SIZE);
        due.is("copy(6, 0, 0, 0, -1)", x.copy(6, 0, 0, 0, -1), LeatDays.BAD);
        due.is("copy(0, 0, 6, 0, 0)", x.copy(0, 0, 6, 0, 0), LeatDays.BAD);
        due.is("copy(0, 0, -1, 0, 0)", x.copy(0, 0, -1, 0, 0), LeatDays.BAD);
        due.is("copy(-1, 0, 0, 0, 0)", x.copy(-1, 0, 0, 0, 0), LeatDays.BAD);
        sameRow("refused", x, 1, 2, 3, 9);
    }

    private static void copyWithinItself() {
        LeatDays x = new LeatDays();
        Due.row(x, 0, 1, 2, 3, 4, 5);
        due.is("copy(0, 0, 0, 1, 4)", x.copy(0, 0, 0, 1, 4), 1);
        sameRow("behind", x, 0, 1, 1, 2, 3, 4);
        Due.row(x, 0, 1, 2, 3, 4, 5);
        due.is("copy(0, 1, 0, 0, 4)", x.copy(0, 1, 0, 0, 4), 1);
        sameRow("ahead", x, 0, 2, 3, 4, 5, 5);
    }

    private static void mean() {
        LeatDays x = new LeatDays();
        due.finds("mean(0)", x, x.mean(0), NOTHING);
        x.row(0, 0);
        due.finds("mean(0) of none", x, x.mean(0), NOUGHT);
        due.is("mean(6)", x.mean(6), LeatDays.BAD);
        due.is("mean(-1)", x.mean(-1), LeatDays.BAD);
        Due.row(x, 0, 1, 2, 2);
        due.tells("mean of 1, 2, 2", x, x.mean(0), 1, 1);
        Due.row(x, 0, -1, -2, -2);
        due.tells("mean of -1, -2, -2", x, x.mean(0), 1, -1);
        int max = Integer.MAX_VALUE;
        Due.row(x, 0, max, max, max);
        due.tells("mean of the greatest", x, x.mean(0), 1, max);
        int min = Integer.MIN_VALUE;
        Due.row(x, 0, min, min);
        due.tells("mean of the least", x, x.mean(0), 1, min);
        due.is("findings(4)", x.findings(NOUGHT), 1);
    }

    private static void refusedChangesNothing() {
        LeatDays x = new LeatDays();
        Due.row(x, 0, 4, 5, 6);
        x.at(0, 1);
        long before = x.digest();
        x.row(0, 41);
        x.row(0, -1);
        x.lay(0, 3, 1);
        x.at(0, 3);
        x.at(3, 0);
        x.tear(3);
        x.copy(0, 0, 0, 1, 3);
        x.mean(1);
        due.is("digest() behind refusals", x.digest(), before);
        due.is("asked() behind refusals", x.asked(), 5);
    }

    private static void sameRow(String name, LeatDays x, int r, int... want) {
        for (int i = 0; i < want.length; i++) {
            due.tells(name + ": at(" + r + ", " + i + ")", x, x.at(r, i), 1, want[i]);
        }
        due.finds(name + ": at the end", x, x.at(r, want.length), BEYOND);
    }
}
