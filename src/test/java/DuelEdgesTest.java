/** Boundary cases of promise 33: 0 to 6 turns, a hatch that is open by 4, a grating that holds 40. */
public final class DuelEdgesTest {
    private static final Edges edges = new Edges();

    public static void main(String[] args) {
        numbers();
        noTurn();
        whoseTurnItIs();
        openByFourAtMost();
        fortyAtMost();
        millerDoesNothing();
        otherDoesNothing();
        nothingElseDone();
        edges.end();
    }

    private static LeatDays stepped(String leat, int steps, int hatch) {
        LeatDays x = Due.leat(leat);
        for (int i = 0; i < steps; i++) {
            x.step();
        }
        x.hatch(hatch);
        return x;
    }

    /** "n (0 .. 6)"; "BAD; STATE: no DAYS". */
    private static void numbers() {
        for (Scene scene : Scene.values()) {
            edges.bounds(scene, 0, 0, 6, "duel", 0);
        }
        for (Scene scene : new Scene[] {Scene.NEW, Scene.BARE}) {
            edges.state(scene, "duel", 0);
            edges.state(scene, "duel", 6);
        }
    }

    /** By no turn it is what is GROUND in 8 STEPS, without what was so far. */
    private static void noTurn() {
        LeatDays x = Scene.LIVED.make();
        edges.is(x, x.mill(8), "duel", 0);
        edges.is(stepped("e90e90", 3, 4), 77 * 8, "duel", 0);
        edges.is(Due.leat("d00d00"), 0, "duel", 0);
        edges.is(Due.leat("d00d00"), 0, "duel", 6);
    }

    /** The MILLER has turns 1, 3, 5, the other one 2, 4, 6: each of the MILLER's opens by 1, a RED one GRINDS 5 by 4. */
    private static void whoseTurnItIs() {
        int[][] want = {{0, 0, 0, 0, 0, 0, 0}, {0, 0, 0, 0, 0, 40, 40}, {0, 0, 0, 40, 40, 40, 40},
            {0, 40, 40, 40, 40, 40, 40}, {40, 40, 40, 40, 40, 40, 40}};
        for (int h = 0; h <= 4; h++) {
            for (int n = 0; n <= 6; n++) {
                edges.is(stepped("e00e00", 0, h), want[h][n], "duel", n);
            }
        }
        // 5 are thrown each time, but what was thrown ahead of a RAKING goes: 9 less 5 by 8 at last.
        LeatDays dry = Due.leat("r90r90");
        int[] less = {72, 72, 32, 72, 32, 72, 32};
        for (int n = 0; n <= 6; n++) {
            edges.is(dry, less[n], "duel", n);
        }
    }

    /** "opens the HATCH by 1 more (4 at most)". */
    private static void openByFourAtMost() {
        edges.is(stepped("d90d90", 0, 3), 288, "duel", 1);
        edges.is(stepped("d90d90", 0, 4), 288, "duel", 1);
        edges.is(stepped("d90d90", 0, 4), 288, "duel", 5);
        edges.is(stepped("d90d90", 0, 4), 248, "duel", 6);
    }

    /** "CLOGGED by 5 more, 40 at most": of 40, of 38, of 35. */
    private static void fortyAtMost() {
        // Opened by 4, not RAKED: 64 less 40, the HATS nothing, 4 times to and fro.
        LeatDays full = stepped("f85h88", 4, 3);
        edges.is(full, 40, "count", 4);
        edges.is(full, 96, "duel", 2);
        // Opened by 3: 54 less 40, 4 times; all else nothing.
        LeatDays near = stepped("h18p59e99", 3, 2);
        edges.is(near, 38, "count", 4);
        edges.is(near, 56, "duel", 2);
        LeatDays just = stepped("d19e88", 5, 3);
        edges.is(just, 35, "count", 4);
        edges.is(just, 116, "duel", 2);
    }

    /** The MILLER "does nothing": RAKED or opened more, less is GROUND. */
    private static void millerDoesNothing() {
        LeatDays x = stepped("p89f98d05", 2, 3);
        edges.is(x, 16, "count", 4);
        // 0 33 0 17 0 14 0 14.
        edges.is(x, 78, "duel", 0);
        edges.is(x, 78, "duel", 1);
        x.rake();
        edges.is(x, 64, "duel", 0);
    }

    /** The other one "does nothing": with 5 thrown the WHEEL would go back to the PIG, 51 would be GROUND. */
    private static void otherDoesNothing() {
        LeatDays x = stepped("p81r59r90", 0, 4);
        edges.is(x, 33, "duel", 0);
        edges.is(x, 33, "duel", 1);
        edges.is(x, 33, "duel", 2);
    }

    /** No DEED is done, nothing is told, behind 40 DEEDS, too. */
    private static void nothingElseDone() {
        LeatDays x = Scene.FULL.make();
        edges.refusedOn(x, x.duel(6), "duel", 6);
        edges.is(x, Scene.TOLD, "asked");
        edges.is(x, 40, "count", 2);
    }
}
