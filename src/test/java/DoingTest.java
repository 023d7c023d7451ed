/** Promises 25 to 28: the best hatch, hatches step by step, the fewest rakings, the day to fish. */
public final class DoingTest {
    private static final int BEYOND = 2;
    private static final Due due = new Due();

    public static void main(String[] args) {
        best();
        plan();
        planFarther();
        planRefused();
        rakes();
        fishes();
        nothingElseDone();
        due.end();
    }

    private static void best() {
        LeatDays x = new LeatDays();
        due.is("best(1) without DAYS", x.best(1), LeatDays.STATE);
        due.is("best(0) without DAYS", x.best(0), LeatDays.BAD);
        due.is("best(21) without DAYS", x.best(21), LeatDays.BAD);
        x = Due.leat("d20d30");
        due.tells("best(3)", x, x.best(3), 4, 28);
        due.tells("best(20)", x, x.best(20), 4, 200);
        due.is("best(0)", x.best(0), LeatDays.BAD);
        x = Due.leat("r20r30");
        due.tells("best(2) of DRY ones", x, x.best(2), 1, 5);
        x = Due.leat("d00d00");
        due.tells("best(2) of none", x, x.best(2), 0, 0);
        // With the HATCH closed the WHEEL would go to and fro: that GRINDS nothing.
        x = Due.leat("d01r99e11");
        due.tells("best(1)", x, x.best(1), 0, 0);
        // d01 turns the WHEEL back to e11: 8 - 1 and 5 more at 4.
        due.tells("best(2)", x, x.best(2), 4, 12);
        x.step();
        due.tells("from then on: best(1)", x, x.best(1), 4, 12);
    }

    private static void plan() {
        LeatDays x = Due.leat("d21f31");
        due.is("plan(1, 0)", x.plan(1, 0), 8);
        sameRow(x, 0, 4);
        due.is("plan(2, 0)", x.plan(2, 0), 31);
        sameRow(x, 0, 4, 4);
        x = Due.leat("r21r31");
        due.is("plan(3, 1) of DRY ones", x.plan(3, 1), 4);
        sameRow(x, 1, 1, 1, 0);
        x = Due.leat("d00d00");
        due.is("plan(5, 2) of none", x.plan(5, 2), 0);
        sameRow(x, 2, 0, 0, 0, 0, 0);
        // To grind nothing in the first STEP turns the WHEEL back to the last DAY, a flood of 9.
        x = Due.leat("d19r00f90");
        due.is("plan(2, 3)", x.plan(2, 3), 63);
        sameRow(x, 3, 0, 4);
        x = Due.leat("d20r00f90");
        x.row(3, 40);
        due.is("plan(2, 3) over a ROW", x.plan(2, 3), 72);
        sameRow(x, 3, 0, 4);
        due.is("asked() is not told", x.asked(), 4);
    }

    /** What is best ahead of one STEP is told by the STEPS behind it. */
    private static void planFarther() {
        LeatDays x = Due.leat("d50d10r00");
        due.is("plan(3, 0) to and fro", x.plan(3, 0), 40);
        sameRow(x, 0, 4, 0, 4);
        due.is("plan(4, 0) to and fro", x.plan(4, 0), 40);
        sameRow(x, 0, 4, 0, 4, 0);
        due.is("plan(5, 0) to and fro", x.plan(5, 0), 60);
        sameRow(x, 0, 4, 0, 4, 0, 4);
        x = Due.leat("d10e00d20");
        due.is("plan(2, 0) to a RED one", x.plan(2, 0), 9);
        sameRow(x, 0, 4, 4);
        x = Due.leat("d50d10d00d80");
        due.is("plan(3, 0) by what is closed later", x.plan(3, 0), 40);
        sameRow(x, 0, 4, 0, 4);
        x = Due.leat("d90d00f90d80");
        due.is("plan(2, 0) by no more than 2 STEPS", x.plan(2, 0), 36);
        sameRow(x, 0, 4, 0);
        x = Due.leat("r10r00");
        due.is("plan(2, 0) of little", x.plan(2, 0), 1);
        sameRow(x, 0, 1, 0);
    }

    private static void planRefused() {
        LeatDays x = new LeatDays();
        due.is("plan(1, 0) without DAYS", x.plan(1, 0), LeatDays.STATE);
        due.is("plan(0, 0)", x.plan(0, 0), LeatDays.BAD);
        due.is("plan(6, 0)", x.plan(6, 0), LeatDays.BAD);
        due.is("plan(1, 6)", x.plan(1, 6), LeatDays.BAD);
        x = Due.leat("d21f31");
        due.is("plan(0, 0)", x.plan(0, 0), LeatDays.BAD);
        due.is("plan(1, -1)", x.plan(1, -1), LeatDays.BAD);
        due.is("count(8)", x.count(8), 0);
    }

    private static void rakes() {
        LeatDays x = new LeatDays();
        due.is("rakes(1, 0) without DAYS", x.rakes(1, 0), LeatDays.STATE);
        due.is("rakes(0, 0)", x.rakes(0, 0), LeatDays.BAD);
        due.is("rakes(9, 0)", x.rakes(9, 0), LeatDays.BAD);
        due.is("rakes(1, -1)", x.rakes(1, -1), LeatDays.BAD);
        due.is("rakes(1, 401)", x.rakes(1, 401), LeatDays.BAD);
        // Each leaves 2 and would grind 10: CLOGGED 0 2 4 6, so 10 8 6 4 are ground.
        x = Due.leat("d52d52");
        due.tells("rakes(4, 28)", x, x.rakes(4, 28), 0, 0);
        // Raking ahead of STEP 2, 3, 4 saves 2 * 3, 4 * 2, 6 * 1.
        due.tells("rakes(4, 29)", x, x.rakes(4, 29), 1, 2);
        due.tells("rakes(4, 34)", x, x.rakes(4, 34), 1, 2);
        due.tells("rakes(4, 35)", x, x.rakes(4, 35), 1, 4);
        due.tells("rakes(4, 36)", x, x.rakes(4, 36), 1, 4);
        due.tells("rakes(4, 37)", x, x.rakes(4, 37), 2, 6);
        due.tells("rakes(4, 39)", x, x.rakes(4, 39), 3, 14);
        due.tells("rakes(4, 40)", x, x.rakes(4, 40), 3, 14);
        due.tells("rakes(4, 41)", x, x.rakes(4, 41), LeatDays.NONE, 14);
        due.tells("rakes(8, 80)", x, x.rakes(8, 80), 7, 254);
        due.is("rakes(8, 400)", x.rakes(8, 400), LeatDays.NONE);
        x.step();
        due.tells("CLOGGED: rakes(1, 10)", x, x.rakes(1, 10), 1, 1);
        due.is("rakes(8, 401)", x.rakes(8, 401), LeatDays.BAD);
        due.is("rakes(8, -1)", x.rakes(8, -1), LeatDays.BAD);
    }

    private static void fishes() {
        LeatDays x = new LeatDays();
        due.is("fishes(1) without DAYS", x.fishes(1), LeatDays.STATE);
        due.is("fishes(0)", x.fishes(0), LeatDays.BAD);
        due.is("fishes(21)", x.fishes(21), LeatDays.BAD);
        x = Due.leat("d52d53d90");
        x.day(2, 1);
        due.tells("fishes(1)", x, x.fishes(1), LeatDays.NONE, 9);
        // 10 + 8 + 13: fishing 0 gives 10 + 10 + 15, fishing 1 gives 10 + 8 + 16.
        due.tells("fishes(3)", x, x.fishes(3), 0, 35);
        x = Due.leat("d52d54d90");
        due.tells("fishes(3) of like ones", x, x.fishes(3), 0, 34);
        x.fish(0);
        // 10 + 10 + 14 as it is; what was FISHED gives no more.
        due.tells("fishes(3) then", x, x.fishes(3), 1, 38);
        x.fish(1);
        due.tells("fishes(3) of no more", x, x.fishes(3), LeatDays.NONE, 38);
        x = Due.leat("h53d90");
        due.tells("fishes(1) of HATS", x, x.fishes(1), 0, 10);
        due.is("fishes(0)", x.fishes(0), LeatDays.BAD);
    }

    private static void nothingElseDone() {
        LeatDays x = Due.leat("h35d02f21e35");
        x.step();
        x.fish(2);
        x.keep(0);
        long before = x.digest();
        x.best(20);
        x.rakes(8, 400);
        x.fishes(20);
        due.is("digest() as it was", x.digest(), before);
        x.plan(5, 0);
        x.tear(0);
        due.is("digest() as it was behind plan()", x.digest(), before);
    }

    private static void sameRow(LeatDays x, int r, int... want) {
        for (int i = 0; i < want.length; i++) {
            due.tells("at(" + r + ", " + i + ")", x, x.at(r, i), 1, want[i]);
        }
        due.finds("at the end of ROW " + r, x, x.at(r, want.length), BEYOND);
    }
}
