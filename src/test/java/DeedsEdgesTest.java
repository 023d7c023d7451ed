/** Boundary cases of promises 15 to 21: the wheel, 40 deeds, a grating of 0 to 40, what is undone and kept. */
public final class DeedsEdgesTest {
    private static final int NOTHING = Edges.NOTHING;
    private static final int STATE = LeatDays.STATE, FULL = LeatDays.FULL, BAD = LeatDays.BAD;
    private static final Edges edges = new Edges();

    public static void main(String[] args) {
        atFirst();
        behindTheLastTheFirst();
        aheadOfTheFirstTheLast();
        turnsBackAndOnAgain();
        grindsThenLeaves();
        gratingFortyAtMost();
        withoutDays();
        fortiethDeed();
        fullIsLast();
        rakeOfAClearOneWhenFull();
        hatchNumbers();
        hatchAsItIs();
        rakeOfAClearOne();
        fishNumbers();
        fishAgain();
        undoNumbers();
        undoOfEachDeed();
        undoneRoomIsThereAgain();
        keepNumbers();
        keepOfNoneAndOfForty();
        onNumbers();
        onIsAsItWasKept();
        onBehindOtherDeeds();
        edges.end();
    }

    private static LeatDays stepped(String leat, int steps) {
        LeatDays x = Due.leat(leat);
        for (int i = 0; i < steps; i++) {
            x.step();
        }
        return x;
    }

    /** "At first DAY 0 is at the WHEEL, the HATCH is open by 2, the GRATING is clear, the WHEEL goes on." */
    private static void atFirst() {
        edges.counts(Due.leat("d99d99"), 2, 0, 0, 2, 0, 0, 0, 0, 0, 1, 0, 0, 0);
        edges.counts(Due.leat("f99e99p99h99f99e99p99h99f99"), 9, 0, 0, 2, 0, 0, 0, 0, 0, 1, 0, 5, 4);
    }

    /** "behind the last one the first": of 2 DAYS, of 9. */
    private static void behindTheLastTheFirst() {
        LeatDays two = Due.leat("d10d20");
        LeatDays nine = Due.leat("d10d20d30d40d50d60d70d80d90");
        for (int i = 0; i < 20; i++) {
            edges.tells(two, i % 2 == 0 ? 2 : 4, (i + 1) % 2, "step");
            edges.tells(nine, 2 * (i % 9) + 2, (i + 1) % 9, "step");
        }
        edges.is(two, 60, "count", 5);
        edges.is(nine, 186, "count", 5);
    }

    /** "the one ahead of it, if it goes back": ahead of the first the last, of 2 DAYS, of 9. */
    private static void aheadOfTheFirstTheLast() {
        LeatDays two = Due.leat("d00d20");
        edges.tells(two, 0, 1, "step");
        edges.is(two, 1, "count", 6);
        edges.tells(two, 4, 0, "step");
        edges.is(two, 1, "count", 6);
        LeatDays nine = Due.leat("d00d20d30d40d50d60d70d80d90");
        edges.tells(nine, 0, 8, "step");
        for (int k = 8; k >= 1; k--) {
            edges.is(nine, k, "count", 1);
            edges.tells(nine, 2 * k + 2, k - 1, "step");
            edges.is(nine, 1, "count", 6);
        }
        edges.tells(nine, 0, 1, "step");
        edges.is(nine, 0, "count", 6);
        edges.tells(nine, 4, 2, "step");
    }

    /** "did it GRIND nothing, the WHEEL TURNS (it goes back, or on again)": at 0, not at 1. */
    private static void turnsBackAndOnAgain() {
        LeatDays x = Due.leat("d30d11d12d30");
        edges.tells(x, 6, 1, "step");
        edges.tells(x, 2, 2, "step");
        edges.tells(x, 1, 3, "step");
        edges.is(x, 0, "count", 6);
        edges.tells(x, 3, 0, "step");
        x.hatch(1);
        edges.tells(x, 0, 3, "step");
        edges.is(x, 1, "count", 6);
        edges.tells(x, 0, 0, "step");
        edges.is(x, 0, "count", 6);
        x.hatch(0);
        edges.tells(x, 0, 3, "step");
        edges.is(x, 1, "count", 6);
        edges.is(x, 12, "count", 5);
    }

    /** "the DAY at the WHEEL GRINDS, then it LEAVES": not through what it LEAVES itself. */
    private static void grindsThenLeaves() {
        LeatDays x = Due.leat("d99d99");
        edges.tells(x, 18, 1, "step");
        edges.is(x, 9, "count", 4);
        edges.tells(x, 9, 0, "step");
        edges.is(x, 18, "count", 4);
        edges.tells(x, 0, 1, "step");
        edges.is(x, 27, "count", 4);
    }

    /** "(40 at most)": 39 and 1 are 40, 40 and 1 are 40, 36 and 9 are 40. */
    private static void gratingFortyAtMost() {
        LeatDays one = Due.leat("d91d91");
        for (int i = 1; i <= 40; i++) {
            one.step();
            edges.is(one, i, "count", 4);
        }
        LeatDays nine = Due.leat("d09d09");
        int[] want = {9, 18, 27, 36, 40, 40};
        for (int clog : want) {
            nine.step();
            edges.is(nine, clog, "count", 4);
        }
        edges.is(nine, 40, "rake");
        edges.is(nine, 0, "count", 4);
        LeatDays hats = Due.leat("h09p08");
        int[] much = {24, 35, 40, 40};
        for (int clog : much) {
            hats.step();
            edges.is(hats, clog, "count", 4);
        }
    }

    /** 15 to 20: "STATE: no DAYS", behind BAD; a DAY to be FISHED is none then. */
    private static void withoutDays() {
        for (Scene scene : new Scene[] {Scene.NEW, Scene.BARE}) {
            edges.state(scene, "step");
            edges.state(scene, "rake");
            for (int h = 0; h <= 4; h++) {
                edges.state(scene, "hatch", h);
            }
            edges.bad(scene, "hatch", -1);
            edges.bad(scene, "hatch", 5);
            edges.bad(scene, "fish", 0);
            edges.bad(scene, "fish", -1);
            for (int k = 0; k <= 2; k++) {
                edges.state(scene, "keep", k);
                edges.finds(scene, NOTHING, "on", k);
            }
            edges.bad(scene, "keep", -1);
            edges.bad(scene, "keep", 3);
        }
    }

    /** "These are DEEDS (40 at most)": each of them can be the 40th, none is the 41st. */
    private static void fortiethDeed() {
        for (String last : new String[] {"step", "rake", "hatch", "fish"}) {
            LeatDays x = stepped("d91d91", 39);
            edges.is(x, 39, "count", 2);
            if (last.equals("hatch")) {
                edges.is(x, 2, "hatch", 3);
            } else if (last.equals("fish")) {
                edges.is(x, 1, "fish", 1);
            } else {
                edges.is(x, last.equals("rake") ? 39 : 0, last);
            }
            edges.is(x, 40, "count", 2);
            edges.refusedOn(x, FULL, "step");
            edges.refusedOn(x, FULL, "hatch", 1);
            edges.refusedOn(x, FULL, "fish", 0);
            edges.refusedOn(x, last.equals("rake") ? STATE : FULL, "rake");
            edges.refusedOn(x, FULL, "lots", 1, 1);
        }
    }

    /** 15 to 18: "(FULL last.)": BAD and STATE come ahead of it. */
    private static void fullIsLast() {
        edges.full(Scene.FULL, "step");
        edges.full(Scene.FULL, "rake");
        for (int h = 0; h < 4; h++) {
            edges.full(Scene.FULL, "hatch", h);
        }
        edges.state(Scene.FULL, "hatch", 4);
        edges.bad(Scene.FULL, "hatch", 5);
        edges.bad(Scene.FULL, "hatch", -1);
        edges.full(Scene.FULL, "fish", 0);
        edges.state(Scene.FULL, "fish", 1);
        edges.full(Scene.FULL, "fish", 2);
        edges.bad(Scene.FULL, "fish", 3);
        edges.bad(Scene.FULL, "fish", -1);
    }

    private static void rakeOfAClearOneWhenFull() {
        LeatDays x = stepped("d90d90", 40);
        edges.refusedOn(x, STATE, "rake");
        LeatDays y = stepped("d91d90", 39);
        y.rake();
        edges.refusedOn(y, STATE, "rake");
    }

    /** 16: "(0 .. 4): by how much it was". */
    private static void hatchNumbers() {
        edges.bounds(Scene.LIVED, 0, 0, 4, "hatch", 0);
        LeatDays x = Due.leat("d10d10");
        int was = 2;
        for (int h : new int[] {0, 4, 1, 3, 2, 0}) {
            edges.is(x, was, "hatch", h);
            edges.is(x, h, "count", 3);
            was = h;
        }
        edges.is(x, 6, "count", 2);
        edges.is(x, 0, "asked");
    }

    /** 16: "STATE: .. it is so", for each, and it is no DEED. */
    private static void hatchAsItIs() {
        edges.state(Scene.LIVED, "hatch", 4);
        LeatDays x = Due.leat("d10d10");
        edges.refusedOn(x, STATE, "hatch", 2);
        for (int h : new int[] {0, 1, 3, 4}) {
            x.hatch(h);
            edges.refusedOn(x, STATE, "hatch", h);
        }
        edges.is(x, 4, "count", 2);
    }

    /** 17: "how CLOGGED it was. STATE: .. it is clear": by 1 it is not. */
    private static void rakeOfAClearOne() {
        LeatDays x = Due.leat("d91d90");
        edges.refusedOn(x, STATE, "rake");
        x.step();
        edges.is(x, 1, "rake");
        edges.refusedOn(x, STATE, "rake");
        x.step();
        edges.refusedOn(x, STATE, "rake");
        edges.is(x, 3, "count", 2);
        LeatDays y = stepped("d91d91", 38);
        edges.is(y, 38, "rake");
        edges.is(y, 0, "count", 4);
        edges.is(y, 39, "count", 2);
    }

    /** 18: "the DRIFT that it had": 0 to 9; DAYS 0 to the last. */
    private static void fishNumbers() {
        edges.bounds(Scene.LIVED, 0, 0, 2, "fish", 0);
        // DAY 1 was FISHED, 32 more or less is no DAY.
        edges.bad(Scene.LIVED, "fish", 33);
        edges.bad(Scene.LIVED, "fish", -31);
        LeatDays x = Due.leat("d09f01r00p09e09h09d00d00h05");
        int[] drifts = {9, 1, 0, 9, 9, 9, 0, 0, 5};
        edges.refusedOn(x, BAD, "fish", 9);
        for (int k = 8; k >= 0; k--) {
            edges.is(x, drifts[k], "fish", k);
            edges.is(x, 511 & ~((1 << k) - 1), "count", 7);
        }
        edges.is(x, 9, "count", 2);
        edges.refusedOn(x, BAD, "fish", 9);
    }

    /** 18: "STATE: it was", also one that had no DRIFT; "its DRIFT is 0 from then on". */
    private static void fishAgain() {
        edges.state(Scene.LIVED, "fish", 1);
        LeatDays x = Due.leat("d90d91");
        edges.is(x, 0, "fish", 0);
        edges.refusedOn(x, STATE, "fish", 0);
        edges.is(x, 1, "fish", 1);
        edges.refusedOn(x, STATE, "fish", 1);
        x.step();
        x.step();
        edges.is(x, 0, "count", 4);
        x.undo(1);
        edges.refusedOn(x, STATE, "fish", 0);
        edges.is(x, 1, "fish", 1);
    }

    /** 19: from 0, all, to as many as there are, none; "BAD" beyond. */
    private static void undoNumbers() {
        edges.bounds(Scene.NEW, 0, 0, 0, "undo", 0);
        edges.bounds(Scene.BARE, 0, 0, 0, "undo", 0);
        edges.bounds(Scene.LIVED, 0, 0, 5, "undo", 0);
        edges.bounds(Scene.FULL, 0, 0, 40, "undo", 0);
        LeatDays x = Scene.BARE.make();
        edges.refusedOn(x, 0, "undo", 0);
        edges.counts(x, 0, 0, 0, 0, 0, 0, 0, 0, 5, 3, 0, 0, 0);
        for (int n = 0; n <= 40; n++) {
            LeatDays y = Scene.FULL.make();
            edges.is(y, 40 - n, "undo", n);
            edges.is(y, n, "count", 2);
            edges.is(y, Scene.TOLD, "asked");
        }
        LeatDays z = Scene.FULL.make();
        edges.refusedOn(z, 0, "undo", 40);
    }

    /** 19: a STEP, the HATCH, RAKING, FISHING: all is as it was ahead of it. */
    private static void undoOfEachDeed() {
        LeatDays x = Due.leat("h99d00e11");
        long[] ahead = new long[6];
        ahead[0] = x.digest();
        x.step();
        ahead[1] = x.digest();
        x.step();
        edges.is(x, 1, "count", 6);
        ahead[2] = x.digest();
        x.rake();
        ahead[3] = x.digest();
        x.hatch(0);
        ahead[4] = x.digest();
        x.fish(0);
        ahead[5] = x.digest();
        x.step();
        for (int n = 5; n >= 0; n--) {
            edges.is(x, 1, "undo", n);
            edges.is(x, ahead[n], "digest");
        }
        edges.counts(x, 3, 0, 0, 2, 0, 0, 0, 0, 0, 1, 0, 1, 1);
    }

    /** 19: behind 40 DEEDS, one undone, one can be done, and is number 39. */
    private static void undoneRoomIsThereAgain() {
        LeatDays x = Scene.FULL.make();
        edges.is(x, 1, "undo", 39);
        edges.is(x, 4, "hatch", 0);
        edges.refusedOn(x, FULL, "step");
        edges.is(x, 1, "undo", 39);
        edges.is(x, 4, "count", 3);
        edges.is(x, 1, "fish", 0);
        edges.is(x, 40, "count", 2);
    }

    /** 20: places 0 .. 2. */
    private static void keepNumbers() {
        for (Scene scene : Scene.values()) {
            edges.bounds(scene, 0, 0, 2, "keep", 0);
        }
        LeatDays x = stepped("d10d10", 1);
        for (int k = 0; k < 3; k++) {
            edges.is(x, 1, "keep", k);
            edges.is(x, k + 1, "count", 10);
        }
        edges.is(x, 1, "keep", 2);
        edges.is(x, 3, "count", 10);
        edges.is(x, 1, "count", 2);
    }

    /** 20: "how many DEEDS": 0 and 40; to be kept is no DEED. */
    private static void keepOfNoneAndOfForty() {
        LeatDays x = Due.leat("d10d10");
        edges.is(x, 0, "keep", 0);
        for (int i = 0; i < 40; i++) {
            x.step();
        }
        edges.is(x, 40, "keep", 1);
        edges.is(x, 0, "on", 0);
        edges.counts(x, 2, 0, 0, 2, 0, 0, 0, 0, 0, 1, 2, 0, 0);
        edges.is(x, 40, "on", 1);
        edges.is(x, 80, "count", 5);
        edges.refusedOn(x, FULL, "step");
        edges.is(x, 40, "undo", 0);
        edges.is(x, 40, "on", 1);
    }

    /** 21: places 0 .. 2, "NOTHING" where none is kept. */
    private static void onNumbers() {
        for (Scene scene : Scene.values()) {
            edges.bounds(scene, 0, 0, 2, "on", 0);
        }
        edges.finds(Scene.LIVED, NOTHING, "on", Scene.MISSING_PLACE);
        edges.finds(Scene.FULL, NOTHING, "on", Scene.MISSING_PLACE);
    }

    /** 21: "as it was kept", whatever was done since; the place stays; other places stay. */
    private static void onIsAsItWasKept() {
        LeatDays x = Scene.LIVED.make();
        edges.is(x, 3, "on", 0);
        edges.counts(x, 3, 1, 3, 3, 1, 6, 0, 2, 5, 3, 2, 1, 1);
        edges.is(x, 4, "on", 2);
        edges.counts(x, 3, 2, 4, 3, 7, 11, 0, 2, 5, 3, 2, 1, 1);
        edges.is(x, 4, "undo", 0);
        edges.is(x, 0, "count", 7);
        edges.is(x, 3, "on", 0);
        edges.is(x, 2, "count", 7);
        edges.is(x, 1, "undo", 2);
        edges.is(x, 2, "count", 3);
        edges.is(x, 1, "undo", 1);
        edges.is(x, 0, "count", 7);
        edges.is(x, 3, "on", 0);
        edges.is(x, 3, "on", 0);
        edges.is(x, 2, "count", 10);
        edges.is(x, Scene.TOLD, "asked");
    }

    /** 21: what is done otherwise since, in the same numbers, is gone, and undone is what was kept. */
    private static void onBehindOtherDeeds() {
        LeatDays x = Scene.LIVED.make();
        LeatDays twin = Scene.LIVED.make();
        twin.on(0);
        long kept = twin.digest();
        twin.on(2);
        long keptLater = twin.digest();
        x.undo(0);
        x.hatch(1);
        x.fish(2);
        x.step();
        x.step();
        x.step();
        edges.is(x, 3, "on", 0);
        edges.is(x, kept, "digest");
        edges.is(x, 3, "undo", 0);
        x.step();
        x.hatch(0);
        edges.is(x, 4, "on", 2);
        edges.is(x, keptLater, "digest");
        edges.is(x, 1, "undo", 3);
        edges.is(x, kept, "digest");
        edges.is(x, 1, "undo", 2);
        edges.is(x, 2, "count", 3);
        edges.is(x, 1, "undo", 1);
        edges.is(x, 0, "count", 7);
        // Kept anew in a place where other DEEDS were kept.
        x.hatch(1);
        x.step();
        long anew = x.digest();
        edges.is(x, 3, "keep", 0);
        edges.is(x, 4, "on", 2);
        edges.is(x, 3, "on", 0);
        edges.is(x, anew, "digest");
    }
}
