/** Boundary cases of promises 12 to 14: what days of each kind grind and leave, through 0 to 4, clogged by 0 to 40. */
public final class DaysEdgesTest {
    private static final int UNLIKE = Edges.UNLIKE;
    private static final Edges edges = new Edges();

    public static void main(String[] args) {
        dayNumbers();
        dayWithoutDays();
        dayTold();
        dayAtFirst();
        dayFished();
        dayGrindsNow();
        leaves();
        leavesNotCutByTheGrating();
        markNumbers();
        markUnlike();
        markOfEach();
        markFished();
        markThroughEachHatch();
        markClogged();
        grindsNumbers();
        grindsOfADay();
        grindsOfAFlood();
        grindsOfADryOne();
        grindsOfAPig();
        grindsOfARedOne();
        grindsOfHats();
        grindsIsNotNow();
        edges.end();
    }

    /** 12: DAYS 0 to the last, WHAT 0 to 5; else "BAD". */
    private static void dayNumbers() {
        for (Scene scene : new Scene[] {Scene.LIVED, Scene.FULL}) {
            edges.bounds(scene, 0, 0, 2, "day", 0, 0);
            edges.bounds(scene, 1, 0, 5, "day", 2, 0);
            edges.bad(scene, "day", 3, 6);
        }
        LeatDays nine = Due.leat("d00d00d00d00d00d00d00d00d97");
        edges.tells(nine, 1, 9, "day", 8, 1);
        edges.refusedOn(nine, LeatDays.BAD, "day", 9, 1);
        LeatDays two = Due.leat("d00d97");
        edges.tells(two, 1, 7, "day", 1, 2);
        edges.refusedOn(two, LeatDays.BAD, "day", 2, 2);
    }

    /** 12 to 14: without DAYS each of them is none. */
    private static void dayWithoutDays() {
        for (Scene scene : new Scene[] {Scene.NEW, Scene.BARE}) {
            for (int k : new int[] {-1, 0, 1, 8, 9}) {
                edges.bad(scene, "day", k, 0);
                edges.bad(scene, "mark", k, 1);
                edges.bad(scene, "grinds", k, 0, 0);
            }
        }
    }

    /** 12: each of what is told, in LIVED: HATCH 4, CLOGGED by 7, DAY 1 FISHED. */
    private static void dayTold() {
        int[][] want = {{0, 3, 1, 5, 1, 0}, {5, 2, 0, 1, 6, 1}, {4, 1, 1, 6, 0, 0}};
        LeatDays x = Scene.LIVED.make();
        edges.counts(x, 3, 2, 5, 4, 7, 11, 0, 2);
        for (int k = 0; k < 3; k++) {
            for (int what = 0; what < 6; what++) {
                edges.tells(x, 1, want[k][what], "day", k, what);
            }
        }
    }

    private static void dayAtFirst() {
        LeatDays x = Due.leat("h99d00");
        int[][] want = {{5, 9, 9, 9, 24, 0}, {0, 0, 0, 0, 0, 0}};
        for (int k = 0; k < 2; k++) {
            for (int what = 0; what < 6; what++) {
                edges.tells(x, 1, want[k][what], "day", k, what);
            }
        }
    }

    /** 12: "its DRIFT (0, if FISHED)", "whether it was FISHED": also one without DRIFT; the FLOW stays. */
    private static void dayFished() {
        LeatDays x = Due.leat("d99d90d99");
        x.fish(0);
        x.fish(1);
        int[][] want = {{0, 9, 0, 18, 0, 1}, {0, 9, 0, 18, 0, 1}, {0, 9, 9, 18, 9, 0}};
        for (int k = 0; k < 3; k++) {
            for (int what = 0; what < 6; what++) {
                edges.tells(x, 1, want[k][what], "day", k, what);
            }
        }
        x.undo(1);
        edges.tells(x, 1, 0, "day", 0, 2);
        edges.tells(x, 1, 1, "day", 0, 5);
        edges.tells(x, 1, 0, "day", 1, 5);
        x.undo(0);
        edges.tells(x, 1, 9, "day", 0, 2);
        edges.tells(x, 1, 9, "day", 0, 4);
        edges.tells(x, 1, 0, "day", 0, 5);
    }

    /** 12: "what it would GRIND now", through each HATCH, by a GRATING that is full. */
    private static void dayGrindsNow() {
        LeatDays x = Due.leat("e99h99d99r99");
        int[] red = {0, 18, 36, 54, 77};
        int[] hats = {0, 0, 9, 18, 27};
        for (int h : new int[] {0, 1, 3, 4}) {
            x.hatch(h);
            edges.tells(x, 1, red[h], "day", 0, 3);
            edges.tells(x, 1, hats[h], "day", 1, 3);
            edges.tells(x, 1, 9 * h, "day", 2, 3);
            edges.tells(x, 1, Math.min(9, 9 * h), "day", 3, 3);
        }
        LeatDays y = Due.leat("h99e59f59");
        for (int i = 0; i < 20; i++) {
            y.step();
        }
        y.hatch(4);
        edges.is(y, 40, "count", 4);
        edges.tells(y, 1, 0, "day", 0, 3);
        edges.tells(y, 1, 5, "day", 1, 3);
        edges.tells(y, 1, 0, "day", 2, 3);
    }

    /** "as much as its DRIFT; a FLOOD half (cut) of that; a PIG 3 more than a DAY; HATS twice as much as a PIG". */
    private static void leaves() {
        int[] drifts = {0, 1, 2, 8, 9};
        int[][] want = {{0, 1, 2, 8, 9}, {0, 0, 1, 4, 4}, {0, 1, 2, 8, 9}, {3, 4, 5, 11, 12}, {0, 0, 1, 4, 4},
            {6, 8, 10, 22, 24}};
        for (int kind = 0; kind < 6; kind++) {
            for (int i = 0; i < drifts.length; i++) {
                LeatDays x = Due.leat("" + "dfrpeh".charAt(kind) + 9 + drifts[i] + "d00");
                edges.tells(x, 1, want[kind][i], "day", 0, 4);
                x.step();
                edges.is(x, want[kind][i], "count", 4);
            }
        }
    }

    /** 12: what it would LEAVE is its own, however CLOGGED the GRATING is. */
    private static void leavesNotCutByTheGrating() {
        LeatDays x = Due.leat("h99p99");
        x.step();
        x.step();
        x.step();
        edges.is(x, 40, "count", 4);
        edges.tells(x, 1, 24, "day", 0, 4);
        edges.tells(x, 1, 12, "day", 1, 4);
        edges.is(x, 115, "mark", 0, 3);
        edges.is(x, 112, "mark", 0, 5);
        edges.is(x, 103, "mark", 1, 3);
    }

    /** 13: "BAD: also KIND 0", ahead of UNLIKE. */
    private static void markNumbers() {
        for (Scene scene : new Scene[] {Scene.LIVED, Scene.FULL}) {
            edges.bounds(scene, 0, 0, 2, "mark", 0, 1);
            edges.bounds(scene, 1, 1, 5, "mark", 0, 1);
            edges.bounds(scene, 1, 1, 5, "mark", 1, 1);
            edges.bad(scene, "mark", 0, 0);
            edges.bad(scene, "mark", 3, 2);
            edges.bad(scene, "mark", 3, 0);
        }
    }

    /** 13: "UNLIKE": DAY 0 is of no KIND but 0, DAY 1 is HATS and a PIG, DAY 2 RED and a FLOOD. */
    private static void markUnlike() {
        for (Scene scene : new Scene[] {Scene.LIVED, Scene.FULL}) {
            for (int kind = 1; kind <= 5; kind++) {
                edges.finds(scene, UNLIKE, "mark", 0, kind);
            }
            for (int kind : new int[] {1, 2, 4}) {
                edges.finds(scene, UNLIKE, "mark", 1, kind);
            }
            for (int kind : new int[] {2, 3, 5}) {
                edges.finds(scene, UNLIKE, "mark", 2, kind);
            }
        }
        LeatDays x = Due.leat("f11r11p11");
        for (int kind = 1; kind <= 5; kind++) {
            for (int k = 0; k < 3; k++) {
                if (kind != k + 1) {
                    edges.findsOn(x, UNLIKE, "mark", k, kind);
                }
            }
        }
    }

    /** 13: of the greatest FLOW and DRIFT, through the HATCH at first; of none. */
    private static void markOfEach() {
        LeatDays x = Due.leat("d99f99r99p99e99h99");
        marks(x, 118, 91, 103, 118, 100, 115, 112);
        LeatDays y = Due.leat("d00f00r00p00e00h00");
        marks(y, 100, 100, 103, 100, 100, 106, 103);
        edges.is(x, 0, "asked");
    }

    /** Of DAYS d f r p e h: FLOOD, DRY, PIG; RED as a FLOOD, as itself; HATS as a PIG, as themselves. */
    private static void marks(LeatDays x, int flood, int dry, int pig, int redFlood, int red, int hatsPig, int hats) {
        edges.is(x, flood, "mark", 1, 1);
        edges.is(x, dry, "mark", 2, 2);
        edges.is(x, pig, "mark", 3, 3);
        edges.is(x, redFlood, "mark", 4, 1);
        edges.is(x, red, "mark", 4, 4);
        edges.is(x, hatsPig, "mark", 5, 3);
        edges.is(x, hats, "mark", 5, 5);
    }

    /** 13: "now": the DRIFT of FISHED ones is 0. */
    private static void markFished() {
        LeatDays x = Due.leat("d99f99r99p99e99h99");
        x.fish(3);
        x.fish(5);
        marks(x, 118, 91, 103, 118, 100, 106, 103);
    }

    /** 13: "(below 100, if less)": a DRY one by 3 HATCHES' FLOW at most; a RED one 5 more by 4 alone. */
    private static void markThroughEachHatch() {
        LeatDays x = Due.leat("d99f99r99p99e99h99");
        x.hatch(0);
        marks(x, 100, 100, 103, 100, 100, 115, 112);
        x.hatch(1);
        marks(x, 109, 100, 103, 109, 100, 115, 112);
        x.hatch(3);
        marks(x, 127, 82, 103, 127, 100, 115, 112);
        x.hatch(4);
        marks(x, 136, 73, 103, 141, 105, 115, 112);
    }

    /** 13: both GRIND 0 at least: CLOGGED by 40, through 4: 72 less 40 against 36 less 40; 9 less 40 against it. */
    private static void markClogged() {
        LeatDays x = Due.leat("d99f99r99p99e99h99");
        for (int i = 0; i < 20; i++) {
            x.step();
        }
        edges.is(x, 40, "count", 4);
        marks(x, 100, 100, 103, 100, 100, 115, 112);
        x.hatch(3);
        marks(x, 114, 100, 103, 114, 100, 115, 112);
        x.hatch(4);
        marks(x, 132, 100, 103, 137, 105, 115, 112);
    }

    /** 14: "a HATCH (0 .. 4), a GRATING so CLOGGED (0 .. 40)". */
    private static void grindsNumbers() {
        for (Scene scene : new Scene[] {Scene.LIVED, Scene.FULL}) {
            edges.bounds(scene, 0, 0, 2, "grinds", 0, 0, 0);
            edges.bounds(scene, 1, 0, 4, "grinds", 2, 0, 40);
            edges.bounds(scene, 2, 0, 40, "grinds", 2, 4, 0);
            edges.bad(scene, "grinds", 3, 5, 41);
        }
    }

    /** "its FLOW times how far the HATCH is open, less how CLOGGED it is (0 at least)". */
    private static void grindsOfADay() {
        grinds("d99", 0, 0, 0);
        grinds("d99", 0, 40, 0);
        grinds("d99", 1, 0, 9);
        grinds("d99", 1, 8, 1);
        grinds("d99", 1, 9, 0);
        grinds("d99", 1, 10, 0);
        grinds("d99", 4, 0, 36);
        grinds("d99", 4, 35, 1);
        grinds("d99", 4, 36, 0);
        grinds("d99", 4, 37, 0);
        grinds("d99", 4, 40, 0);
        grinds("d09", 4, 0, 0);
        grinds("d10", 4, 3, 1);
    }

    /** "a FLOOD as a DAY with twice the FLOW". */
    private static void grindsOfAFlood() {
        grinds("f99", 0, 0, 0);
        grinds("f99", 1, 0, 18);
        grinds("f99", 1, 17, 1);
        grinds("f99", 1, 18, 0);
        grinds("f99", 1, 19, 0);
        grinds("f99", 4, 0, 72);
        grinds("f99", 4, 40, 32);
        grinds("f59", 4, 39, 1);
        grinds("f59", 4, 40, 0);
        grinds("f49", 4, 40, 0);
        grinds("f09", 4, 0, 0);
    }

    /** "a DRY one as a DAY through a HATCH open by 1 at most". */
    private static void grindsOfADryOne() {
        grinds("r99", 0, 0, 0);
        grinds("r99", 1, 0, 9);
        grinds("r99", 2, 0, 9);
        grinds("r99", 4, 0, 9);
        grinds("r99", 4, 8, 1);
        grinds("r99", 4, 9, 0);
        grinds("r99", 4, 10, 0);
        grinds("r99", 4, 40, 0);
        grinds("r09", 4, 0, 0);
    }

    /** "a PIG as a DAY". */
    private static void grindsOfAPig() {
        grinds("p99", 0, 0, 0);
        grinds("p99", 4, 0, 36);
        grinds("p99", 4, 35, 1);
        grinds("p99", 4, 36, 0);
        grinds("p99", 4, 40, 0);
        grinds("p09", 4, 0, 0);
    }

    /** "a RED one as a FLOOD, 5 more, if the HATCH is open by 4". */
    private static void grindsOfARedOne() {
        grinds("e99", 0, 0, 0);
        grinds("e99", 3, 0, 54);
        grinds("e99", 3, 40, 14);
        grinds("e99", 4, 0, 77);
        grinds("e99", 4, 40, 37);
        grinds("e59", 4, 39, 6);
        grinds("e59", 4, 40, 5);
        grinds("e49", 4, 31, 6);
        grinds("e49", 4, 32, 5);
        grinds("e49", 4, 33, 5);
        grinds("e49", 4, 40, 5);
        grinds("e09", 4, 0, 5);
        grinds("e09", 4, 40, 5);
        grinds("e09", 3, 0, 0);
    }

    /** "HATS as a PIG, 1 less for each of DRIFT (0 at least)". */
    private static void grindsOfHats() {
        grinds("h99", 0, 0, 0);
        grinds("h99", 1, 0, 0);
        grinds("h98", 1, 0, 1);
        grinds("h99", 4, 0, 27);
        grinds("h99", 4, 26, 1);
        grinds("h99", 4, 27, 0);
        grinds("h99", 4, 28, 0);
        grinds("h99", 4, 40, 0);
        grinds("h90", 4, 35, 1);
        grinds("h90", 4, 36, 0);
        grinds("h19", 4, 0, 0);
        grinds("h09", 4, 0, 0);
        LeatDays x = Due.leat("h99d00");
        x.fish(0);
        edges.is(x, 36, "grinds", 0, 4, 0);
        edges.is(x, 1, "grinds", 0, 4, 35);
        edges.is(x, 0, "grinds", 0, 4, 36);
    }

    private static void grinds(String day, int hatch, int clog, int want) {
        edges.is(Due.leat(day + "d00"), want, "grinds", 0, hatch, clog);
    }

    /** 14: by what is told, not by the HATCH and the GRATING as they are; nothing is told by asked(). */
    private static void grindsIsNotNow() {
        LeatDays x = Scene.LIVED.make();
        long before = x.digest();
        edges.is(x, 3, "grinds", 0, 1, 0);
        edges.is(x, 0, "grinds", 0, 4, 40);
        edges.is(x, Scene.TOLD, "asked");
        edges.is(x, before, "digest");
    }
}
