/** Boundary cases of promises 25 to 28: hatches for 1 to 20 and 1 to 5 steps, rakings of 8, the day to fish. */
public final class DoingEdgesTest {
    private static final int NONE = LeatDays.NONE;
    private static final Edges edges = new Edges();

    public static void main(String[] args) {
        numbers();
        withoutDays();
        bestFirst();
        bestOfOneAndTwenty();
        bestIsNotWidest();
        planFirst();
        planOfOneAndFive();
        planComesToARowAnew();
        rakesOfNone();
        rakesToTheLastGrain();
        rakesOfAll();
        rakesFourHundred();
        rakesNone();
        fishesFirst();
        fishesNone();
        fishesTheLast();
        fishesOfOneAndTwenty();
        nothingElseDone();
        edges.end();
    }

    /** 25, 28: n 1 .. 20; 26: n 1 .. 5, ROWS 0 .. 5; 27: n 1 .. 8, v 0 .. 400; BAD comes ahead of STATE. */
    private static void numbers() {
        for (Scene scene : Scene.values()) {
            edges.bounds(scene, 0, 1, 20, "best", 1);
            edges.bounds(scene, 0, 1, 5, "plan", 1, 0);
            edges.bounds(scene, 1, 0, 5, "plan", 5, 0);
            edges.bad(scene, "plan", 0, 6);
            edges.bounds(scene, 0, 1, 8, "rakes", 1, 0);
            edges.bounds(scene, 1, 0, 400, "rakes", 8, 0);
            edges.bad(scene, "rakes", 9, 401);
            edges.bounds(scene, 0, 1, 20, "fishes", 1);
        }
    }

    /** 25 to 28: "STATE: no DAYS"; a ROW is not made. */
    private static void withoutDays() {
        for (Scene scene : new Scene[] {Scene.NEW, Scene.BARE}) {
            edges.state(scene, "best", 1);
            edges.state(scene, "best", 20);
            edges.state(scene, "plan", 1, 0);
            edges.state(scene, "plan", 5, Scene.MISSING_ROW);
            edges.state(scene, "rakes", 1, 0);
            edges.state(scene, "rakes", 8, 400);
            edges.state(scene, "fishes", 1);
            edges.state(scene, "fishes", 20);
        }
    }

    /** 25: "(the first)": of five alike 0, of four alike 1. */
    private static void bestFirst() {
        edges.tells(Due.leat("d00f09"), 0, 0, "best", 20);
        edges.tells(Due.leat("r90r10"), 1, 10, "best", 2);
        LeatDays x = Due.leat("d00d00");
        x.hatch(4);
        edges.tells(x, 0, 0, "best", 1);
        edges.is(x, 4, "count", 3);
        // A RED one GRINDS 5 by 4 alone.
        edges.tells(Due.leat("e00e00"), 4, 5, "best", 1);
    }

    /** 25: 1 STEP, 20 STEPS; as the HATCH is counts, too. */
    private static void bestOfOneAndTwenty() {
        LeatDays x = Due.leat("e90e90");
        edges.tells(x, 4, 77, "best", 1);
        edges.tells(x, 4, 1540, "best", 20);
        x.hatch(4);
        edges.tells(x, 4, 1540, "best", 20);
        x.step();
        edges.tells(x, 4, 77, "best", 1);
        LeatDays full = Scene.FULL.make();
        edges.is(full, full.best(20), "best", 20);
        edges.is(full, 40, "count", 2);
    }

    /** 25: by 3 the HATS GRIND nothing, the WHEEL goes back to the FLOOD: 54 less 12. */
    private static void bestIsNotWidest() {
        LeatDays x = Due.leat("h13r00f90");
        edges.tells(x, 4, 1, "best", 1);
        edges.tells(x, 3, 42, "best", 2);
    }

    /** 26: "of like ones the first (rising)". */
    private static void planFirst() {
        LeatDays x = Due.leat("d10d00d10");
        edges.is(x, 4, "plan", 2, 0);
        edges.row(x, 0, 0, 4);
        edges.is(x, 4, "plan", 1, 0);
        edges.row(x, 0, 4);
        LeatDays dry = Due.leat("r10r10");
        edges.is(dry, 5, "plan", 5, 0);
        edges.row(dry, 0, 1, 1, 1, 1, 1);
        LeatDays none = Due.leat("d00d00");
        none.hatch(4);
        edges.is(none, 0, "plan", 5, 0);
        edges.row(none, 0, 0, 0, 0, 0, 0);
        // What is as good is as low as it can be, ahead and behind: 1 by the DRY one, then nothing more.
        LeatDays low = Due.leat("r10d00d00");
        edges.is(low, 1, "plan", 2, 0);
        edges.row(low, 0, 1, 0);
    }

    /** 26: 1 STEP, 5 STEPS, of most. */
    private static void planOfOneAndFive() {
        LeatDays x = Due.leat("e90e90");
        edges.is(x, 77, "plan", 1, 0);
        edges.row(x, 0, 4);
        edges.is(x, 385, "plan", 5, 0);
        edges.row(x, 0, 4, 4, 4, 4, 4);
        // FLOOD, nothing, FLOOD: closed at the last but one, the WHEEL comes back to the first.
        LeatDays y = Due.leat("f90d10d00d00d00");
        edges.is(y, 144, "plan", 3, 0);
        edges.row(y, 0, 4, 0, 4);
        edges.is(y, 216, "plan", 5, 0);
        edges.row(y, 0, 4, 0, 4, 0, 4);
        // That it is closed then is seen ahead of the first: 40 and 40, not 36 and 36 by going back at once.
        LeatDays z = Due.leat("f50d10d00d90d90");
        edges.is(z, 80, "plan", 3, 0);
        edges.row(z, 0, 4, 0, 4);
        LeatDays clogged = Scene.LIVED.make();
        // The RED one at the WHEEL: 8 less 7 and 5.
        edges.is(clogged, 6, "plan", 1, 0);
        edges.row(clogged, 0, 4);
    }

    /** 26: "comes to a ROW (anew)": longer, shorter, missing; nothing is told by asked(). */
    private static void planComesToARowAnew() {
        for (int r = 0; r < 6; r++) {
            LeatDays x = Scene.LIVED.make();
            edges.is(x, 6, "plan", 1, r);
            edges.is(x, Scene.TOLD, "asked");
            edges.is(x, r == Scene.MISSING_ROW ? 6 : 5, "count", 8);
            edges.row(x, r, 4);
            x.plan(5, r);
            edges.is(x, 1, "at", r, 4);
            edges.findsOn(x, Edges.BEYOND, "at", r, 5);
        }
    }

    /** 27: v 0 needs none; none are told as 0. */
    private static void rakesOfNone() {
        LeatDays x = Scene.LIVED.make();
        edges.tells(x, 0, 0, "rakes", 1, 0);
        LeatDays y = Scene.LIVED.make();
        edges.tells(y, 0, 0, "rakes", 8, 0);
        edges.tells(Due.leat("d00d00"), 0, 0, "rakes", 8, 0);
    }

    /** 27: "v or more": CLOGGED 0 3 6: 10 7 4 are GROUND; RAKED ahead of STEP 2: 10 10 7, of STEP 3: 10 7 10. */
    private static void rakesToTheLastGrain() {
        LeatDays x = Due.leat("d53d53");
        edges.tells(x, 0, 0, "rakes", 3, 21);
        edges.tells(x, 1, 2, "rakes", 3, 22);
        edges.tells(x, 1, 2, "rakes", 3, 27);
        edges.tells(x, 2, 6, "rakes", 3, 28);
        edges.tells(x, 2, 6, "rakes", 3, 30);
        edges.tells(x, NONE, 6, "rakes", 3, 31);
        // Of like few the least number: ahead of STEP 2 of 2, not of STEP 1.
        edges.tells(x, 1, 2, "rakes", 2, 20);
        edges.tells(x, NONE, 2, "rakes", 2, 21);
    }

    /** 27: 8 of 8: bits 0 to 7; 1 of 1: bit 0. */
    private static void rakesOfAll() {
        LeatDays x = Due.leat("d51d51");
        x.step();
        edges.tells(x, 0, 0, "rakes", 1, 9);
        edges.tells(x, 1, 1, "rakes", 1, 10);
        edges.tells(x, 8, 255, "rakes", 8, 80);
        edges.tells(x, NONE, 255, "rakes", 8, 81);
        edges.tells(x, 7, 127, "rakes", 8, 79);
        edges.tells(x, 7, 127, "rakes", 7, 70);
    }

    /** 27: 400 can be reached, and just so: FLOODS of 25 in 4 DAYS, twice, by 4; with 1 on the GRATING 399. */
    private static void rakesFourHundred() {
        LeatDays x = Due.leat("f60f60f60f70");
        x.hatch(4);
        edges.tells(x, 0, 0, "rakes", 8, 400);
        LeatDays y = Due.leat("f60f60f60f70f60f60f62f70");
        y.hatch(4);
        edges.tells(y, 0, 0, "rakes", 8, 399);
        edges.tells(y, 1, 128, "rakes", 8, 400);
        LeatDays less = Due.leat("f60f60f60f70f60f60f60f60");
        less.hatch(4);
        edges.is(less, NONE, "rakes", 8, 400);
        edges.is(less, 0, "rakes", 8, 392);
    }

    /** 27: "NONE: by none"; asked() is as it was, nothing is found. */
    private static void rakesNone() {
        LeatDays x = Scene.LIVED.make();
        edges.refusedOn(x, NONE, "rakes", 1, 14);
        edges.tells(x, 1, 1, "rakes", 1, 13);
        LeatDays y = Due.leat("d00d00");
        edges.refusedOn(y, NONE, "rakes", 8, 1);
    }

    /** 28: "(the first)" of those by which most is GROUND. */
    private static void fishesFirst() {
        // 18 17 16 by 1 of each; either FISHED: 18 18 17 or 18 17 17.
        edges.tells(Due.leat("d91d91d90"), 0, 53, "fishes", 3);
        // 18 17 16 15: DAY 0 FISHED 18 18 17 17.
        edges.tells(Due.leat("d91d91"), 0, 70, "fishes", 4);
        // DAY 0 saves 2 * 1, DAY 1 saves 1 * 2: alike.
        edges.tells(Due.leat("d91d92d90"), 0, 52, "fishes", 3);
        // DAY 1 saves more, though it comes later.
        edges.tells(Due.leat("d91d93d90"), 1, 52, "fishes", 3);
    }

    /** 28: "NONE: by none more than by fishing nothing"; asked() is as it was. */
    private static void fishesNone() {
        LeatDays x = Due.leat("d90d90");
        x.day(0, 1);
        edges.tells(x, NONE, 9, "fishes", 20);
        LeatDays y = Due.leat("d99d90");
        edges.tells(y, NONE, 0, "fishes", 1);
        edges.tells(y, 0, 36, "fishes", 2);
        y.fish(0);
        edges.tells(y, NONE, 36, "fishes", 20);
        edges.is(y, 0, "finding");
        LeatDays none = Due.leat("d09h09");
        edges.tells(none, NONE, 0, "fishes", 20);
        // Half of 1 is none: a FLOOD that LEAVES nothing is not to be FISHED.
        edges.tells(Due.leat("f91f90"), NONE, 0, "fishes", 20);
        edges.tells(Due.leat("f92f90"), 0, 72, "fishes", 2);
    }

    /** 28: the last of nine DAYS. */
    private static void fishesTheLast() {
        LeatDays x = Due.leat("d90d90d90d90d90d90d90d90d91");
        edges.is(x, NONE, "fishes", 9);
        edges.tells(x, 8, 180, "fishes", 10);
    }

    /** 28: 1 STEP: HATS GRIND more, FISHED; 20 STEPS. */
    private static void fishesOfOneAndTwenty() {
        edges.tells(Due.leat("h91d90"), 0, 18, "fishes", 1);
        LeatDays x = Due.leat("d90d91");
        edges.tells(x, 1, 360, "fishes", 20);
        edges.tells(x, 1, 54, "fishes", 3);
        edges.is(x, NONE, "fishes", 2);
    }

    /** "(aside)": no DEED, behind 40 of them, too. */
    private static void nothingElseDone() {
        LeatDays x = Scene.FULL.make();
        LeatDays twin = Scene.FULL.make();
        x.best(20);
        x.rakes(8, 400);
        x.rakes(8, 0);
        x.fishes(20);
        x.plan(5, 2);
        x.tear(2);
        twin.tear(2);
        edges.is(x, twin.digest(), "digest");
        edges.is(x, 40, "undo", 0);
        twin.undo(0);
        edges.is(x, twin.digest(), "digest");
    }
}
