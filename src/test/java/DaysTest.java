/** Promises 12 to 14: what is told of a day, its mark, what it grinds. */
public final class DaysTest {
    private static final int UNLIKE = 3;
    private static final Due due = new Due();

    public static void main(String[] args) {
        grindsByKind();
        grindsRefused();
        day();
        dayFished();
        mark();
        markWithHatchWide();
        markRefused();
        due.end();
    }

    private static void grindsByKind() {
        LeatDays x = Due.leat("d32 f32 r32 p32 e32 h32 e02 h39");
        // by DAY: {hatch, clog, what is due}
        int[][][] want = {
            {{0, 0, 0}, {1, 0, 3}, {4, 0, 12}, {4, 11, 1}, {4, 12, 0}, {4, 40, 0}},
            {{0, 0, 0}, {1, 0, 6}, {4, 0, 24}, {4, 23, 1}, {4, 24, 0}, {4, 40, 0}},
            {{0, 0, 0}, {1, 0, 3}, {4, 0, 3}, {2, 2, 1}, {4, 3, 0}, {4, 40, 0}},
            {{0, 0, 0}, {1, 0, 3}, {4, 0, 12}, {4, 11, 1}, {4, 12, 0}, {4, 40, 0}},
            {{0, 0, 0}, {1, 0, 6}, {3, 0, 18}, {4, 0, 29}, {4, 23, 6}, {4, 24, 5}, {4, 40, 5}, {3, 40, 0}},
            {{0, 0, 0}, {1, 0, 1}, {4, 0, 10}, {4, 9, 1}, {4, 10, 0}, {4, 12, 0}, {4, 40, 0}},
            {{4, 0, 5}, {4, 40, 5}, {3, 0, 0}},
            {{4, 0, 3}, {3, 0, 0}, {4, 3, 0}, {4, 2, 1}},
        };
        for (int k = 0; k < want.length; k++) {
            for (int[] w : want[k]) {
                due.is("grinds(" + k + ", " + w[0] + ", " + w[1] + ")", x.grinds(k, w[0], w[1]), w[2]);
            }
        }
    }

    private static void grindsRefused() {
        LeatDays x = new LeatDays();
        due.is("without DAYS", x.grinds(0, 0, 0), LeatDays.BAD);
        x = Due.leat("d32f32");
        due.is("grinds(2, 0, 0)", x.grinds(2, 0, 0), LeatDays.BAD);
        due.is("grinds(-1, 0, 0)", x.grinds(-1, 0, 0), LeatDays.BAD);
        due.is("grinds(0, 5, 0)", x.grinds(0, 5, 0), LeatDays.BAD);
        due.is("grinds(0, -1, 0)", x.grinds(0, -1, 0), LeatDays.BAD);
        due.is("grinds(0, 0, 41)", x.grinds(0, 0, 41), LeatDays.BAD);
        due.is("grinds(0, 0, -1)", x.grinds(0, 0, -1), LeatDays.BAD);
        due.is("asked()", x.asked(), 0);
    }

    private static void day() {
        LeatDays x = Due.leat("d35f35r35p35e35h35");
        int[] flour = {6, 12, 3, 6, 12, 1};
        int[] leaves = {5, 2, 5, 8, 2, 16};
        for (int k = 0; k < 6; k++) {
            due.tells("day(" + k + ", 0)", x, x.day(k, 0), 1, k);
            due.tells("day(" + k + ", 1)", x, x.day(k, 1), 1, 3);
            due.tells("day(" + k + ", 2)", x, x.day(k, 2), 1, 5);
            due.tells("day(" + k + ", 3)", x, x.day(k, 3), 1, flour[k]);
            due.tells("day(" + k + ", 4)", x, x.day(k, 4), 1, leaves[k]);
            due.tells("day(" + k + ", 5)", x, x.day(k, 5), 1, 0);
        }
        x.step();
        due.tells("CLOGGED: day(1, 3)", x, x.day(1, 3), 1, 7);
        x.hatch(4);
        due.tells("wide: day(4, 3)", x, x.day(4, 3), 1, 24);
        due.is("day(0, 6)", x.day(0, 6), LeatDays.BAD);
        due.is("day(0, -1)", x.day(0, -1), LeatDays.BAD);
        due.is("day(6, 0)", x.day(6, 0), LeatDays.BAD);
        due.is("day(-1, 0)", x.day(-1, 0), LeatDays.BAD);
        due.is("asked() as it was", x.asked(), 24);
        due.is("without DAYS", new LeatDays().day(0, 0), LeatDays.BAD);
    }

    private static void dayFished() {
        LeatDays x = Due.leat("h35p34");
        x.fish(0);
        due.tells("day(0, 2)", x, x.day(0, 2), 1, 0);
        due.tells("day(0, 3)", x, x.day(0, 3), 1, 6);
        due.tells("day(0, 4)", x, x.day(0, 4), 1, 6);
        due.tells("day(0, 5)", x, x.day(0, 5), 1, 1);
        due.tells("day(1, 5)", x, x.day(1, 5), 1, 0);
        due.tells("day(1, 2)", x, x.day(1, 2), 1, 4);
    }

    private static void mark() {
        LeatDays x = Due.leat("d35f35r35p35e35h35");
        due.is("mark(1, 1)", x.mark(1, 1), 106);
        due.is("mark(4, 1)", x.mark(4, 1), 106);
        due.is("mark(2, 2)", x.mark(2, 2), 97);
        due.is("mark(3, 3)", x.mark(3, 3), 103);
        due.is("mark(5, 3)", x.mark(5, 3), 111);
        due.is("mark(4, 4)", x.mark(4, 4), 100);
        due.is("mark(5, 5)", x.mark(5, 5), 108);
        x.fish(5);
        due.is("FISHED: mark(5, 3)", x.mark(5, 3), 106);
        due.is("FISHED: mark(5, 5)", x.mark(5, 5), 103);
        x.hatch(0);
        due.is("closed: mark(1, 1)", x.mark(1, 1), 100);
        due.is("closed: mark(2, 2)", x.mark(2, 2), 100);
    }

    private static void markWithHatchWide() {
        LeatDays x = Due.leat("d15f35r95p35e35h35");
        x.hatch(4);
        due.is("wide: mark(4, 4)", x.mark(4, 4), 105);
        due.is("wide: mark(4, 1)", x.mark(4, 1), 117);
        due.is("wide: mark(2, 2)", x.mark(2, 2), 73);
        x.step();
        due.is("wide, CLOGGED: mark(1, 1)", x.mark(1, 1), 112);
        due.is("wide, CLOGGED: mark(2, 2)", x.mark(2, 2), 73);
    }

    private static void markRefused() {
        LeatDays x = Due.leat("d35f35r35p35e35h35");
        boolean[][] is = {
            {false, false, false, false, false}, {true, false, false, false, false},
            {false, true, false, false, false}, {false, false, true, false, false},
            {true, false, false, true, false}, {false, false, true, false, true},
        };
        int unlike = 0;
        for (int k = 0; k < 6; k++) {
            for (int kind = 1; kind < 6; kind++) {
                if (!is[k][kind - 1]) {
                    due.finds("mark(" + k + ", " + kind + ")", x, x.mark(k, kind), UNLIKE);
                    unlike++;
                }
            }
        }
        due.is("findings(3)", x.findings(UNLIKE), unlike);
        due.is("mark(0, 0)", x.mark(0, 0), LeatDays.BAD);
        due.is("mark(0, 6)", x.mark(0, 6), LeatDays.BAD);
        due.is("mark(0, -1)", x.mark(0, -1), LeatDays.BAD);
        due.is("mark(6, 1)", x.mark(6, 1), LeatDays.BAD);
        due.is("mark(-1, 1)", x.mark(-1, 1), LeatDays.BAD);
        due.is("findings(3) as it was", x.findings(UNLIKE), unlike);
    }
}
