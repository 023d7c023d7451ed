/** Boundary cases of promises 29 to 32: rows of 1 to 20 numbers, bits of days, flows and kinds, the hatch to look at. */
public final class WhichDayEdgesTest {
    private static final int NOTHING = Edges.NOTHING, UNLIKE = Edges.UNLIKE, SIZE = Edges.SIZE;
    private static final int MIN = Edges.MIN, MAX = Edges.MAX;
    private static final int MISSING = Scene.MISSING_ROW;
    private static final Edges edges = new Edges();

    public static void main(String[] args) {
        numbers();
        withoutDays();
        missing();
        sizes();
        unlike();
        sizeAheadOfUnlike();
        whereOfNine();
        whereRound();
        whereOfTwenty();
        flowsOfNoneAndNine();
        flowsOfAnother();
        kindsOfFirstAndLast();
        kindsByWhatTheyLeave();
        lookNumbers();
        look();
        lookClogged();
        nothingElseDone();
        edges.end();
    }

    /** 29 to 31: ROWS 0 .. 5, DAYS 0 to the last; BAD is first. */
    private static void numbers() {
        for (Scene scene : Scene.values()) {
            edges.bounds(scene, 0, 0, 5, "where", 0);
        }
        for (Scene scene : new Scene[] {Scene.LIVED, Scene.FULL}) {
            edges.bounds(scene, 0, 0, 2, "flows", 0, 0);
            edges.bounds(scene, 0, 0, 2, "flows", 0, MISSING);
            edges.bounds(scene, 1, 0, 5, "flows", 2, 0);
            edges.bounds(scene, 0, 0, 2, "kinds", 0, 0);
            edges.bounds(scene, 0, 0, 2, "kinds", 0, MISSING);
            edges.bounds(scene, 1, 0, 5, "kinds", 2, 0);
            edges.bad(scene, "flows", 3, 6);
            edges.bad(scene, "kinds", 3, 6);
        }
    }

    /** 29: "STATE: no DAYS" ahead of NOTHING, SIZE, UNLIKE; 30, 31: a DAY is none then. */
    private static void withoutDays() {
        for (Scene scene : new Scene[] {Scene.NEW, Scene.BARE}) {
            for (int r = 0; r < 6; r++) {
                edges.state(scene, "where", r);
                edges.bad(scene, "flows", 0, r);
                edges.bad(scene, "kinds", 0, r);
            }
            edges.bad(scene, "where", 6);
            edges.bad(scene, "flows", 0, 6);
            edges.bad(scene, "kinds", -1, 0);
        }
        LeatDays x = new LeatDays();
        Due.row(x, 0, -1);
        edges.refusedOn(x, LeatDays.STATE, "where", 0);
    }

    /** 29 to 31: "NOTHING". */
    private static void missing() {
        for (Scene scene : new Scene[] {Scene.LIVED, Scene.FULL}) {
            edges.finds(scene, NOTHING, "where", MISSING);
            edges.finds(scene, NOTHING, "flows", 0, MISSING);
            edges.finds(scene, NOTHING, "kinds", 2, MISSING);
        }
    }

    /** 29 to 31: "SIZE: none, more than 20": 0 and 21 and 40; 1 and 20 are fine. */
    private static void sizes() {
        for (Scene scene : new Scene[] {Scene.LIVED, Scene.FULL}) {
            for (int r : new int[] {1, 3, 5}) {
                edges.finds(scene, SIZE, "where", r);
                edges.finds(scene, SIZE, "flows", 0, r);
                edges.finds(scene, SIZE, "kinds", 2, r);
            }
        }
        LeatDays x = Due.leat("d10d10");
        x.hatch(0);
        for (int n : new int[] {1, 20}) {
            x.row(0, n);
            edges.is(x, 3, "where", 0);
            edges.is(x, 1023, "flows", 0, 0);
            edges.is(x, 63, "kinds", 0, 0);
        }
        edges.is(x, 0, "finding");
    }

    /** 29 to 31: "UNLIKE: below 0": -1 in the first place, in the last, behind what can't be, too; 0 is fine. */
    private static void unlike() {
        int[][] rows = {{-1}, {MIN}, {-1, 2}, {2, -1}, {0, -1}, {MAX, -1}, {2, 2, MIN},
            {2, 2, 2, 2, 2, 2, 2, 2, 2, 2, 2, 2, 2, 2, 2, 2, 2, 2, 2, -1}};
        for (int[] row : rows) {
            LeatDays x = Due.leat("d10d10");
            Due.row(x, 3, row);
            edges.findsOn(x, UNLIKE, "where", 3);
            edges.findsOn(x, UNLIKE, "flows", 1, 3);
            edges.findsOn(x, UNLIKE, "kinds", 1, 3);
            edges.refusedOn(x, LeatDays.BAD, "flows", 2, 3);
            edges.refusedOn(x, LeatDays.BAD, "kinds", 2, 3);
        }
        LeatDays x = Due.leat("d10d10");
        // What stood behind the end of a shorter ROW is none of it.
        Due.row(x, 3, 2, -1);
        Due.row(x, 3, 2);
        edges.is(x, 3, "where", 3);
        edges.is(x, 2, "flows", 0, 3);
        edges.is(x, 63, "kinds", 1, 3);
        for (int v : new int[] {0, 1, 3, MAX}) {
            Due.row(x, 3, v);
            edges.is(x, 0, "where", 3);
        }
        edges.is(x, 0, "finding");
    }

    private static void sizeAheadOfUnlike() {
        LeatDays x = Due.leat("d10d10");
        x.row(0, 21);
        for (int i : new int[] {20, 0}) {
            x.lay(0, i, -1);
            edges.findsOn(x, SIZE, "where", 0);
            edges.findsOn(x, SIZE, "flows", 0, 0);
            edges.findsOn(x, SIZE, "kinds", 0, 0);
        }
    }

    /** 29: bits 0 to 8. */
    private static void whereOfNine() {
        LeatDays x = Due.leat("d10d20d30d40d50d60d70d80d90");
        for (int k = 0; k < 9; k++) {
            Due.row(x, 0, 2 * k + 2);
            edges.is(x, 1 << k, "where", 0);
        }
        Due.row(x, 0, 0);
        edges.is(x, 0, "where", 0);
        LeatDays alike = Due.leat("d10d10d10d10d10d10d10d10d10");
        Due.row(alike, 0, 2, 2);
        edges.is(alike, 511, "where", 0);
    }

    /** 29: behind the last the first; going back, ahead of the first the last; "all else as it is". */
    private static void whereRound() {
        LeatDays x = Due.leat("d00d20d30d40d50d60d70d80d90");
        where(x, 256, 18, 0);
        where(x, 1, 0, 18);
        where(x, 0, 0, 4);
        x.step();
        edges.is(x, 1, "count", 6);
        where(x, 256, 18, 16);
        where(x, 2, 4, 0);
        where(x, 1, 0, 4);
        where(x, 0, 0, 18);
        LeatDays y = Scene.LIVED.make();
        // Through 4, CLOGGED by 7: 12 less 7, 8 less 7 (FISHED), 8 less 7 and 5.
        where(y, 1, 5);
        where(y, 2, 1);
        where(y, 4, 6);
        where(y, 4, 6, 5);
        where(y, 1, 5, 0);
        // Then 12 less 14, the WHEEL going back.
        where(y, 1, 5, 0, 0);
    }

    private static void where(LeatDays x, int want, int... numbers) {
        Due.row(x, 0, numbers);
        edges.is(x, want, "where", 0);
    }

    /** 29: what was GROUND in 20 STEPS; the last number counts as the first does. */
    private static void whereOfTwenty() {
        LeatDays x = Due.leat("d10d10d20");
        x.book(20, 0);
        edges.is(x, 1, "where", 0);
        x.lay(0, 19, 3);
        edges.is(x, 0, "where", 0);
        x.book(20, 0);
        x.lay(0, 0, 4);
        edges.is(x, 0, "where", 0);
    }

    /** 30: "bits 0 .. 9". */
    private static void flowsOfNoneAndNine() {
        LeatDays x = Due.leat("d50d50");
        for (int flow = 0; flow <= 9; flow++) {
            Due.row(x, 0, 2 * flow);
            edges.is(x, 1 << flow, "flows", 0, 0);
            Due.row(x, 0, 2 * flow + 1);
            edges.is(x, 0, "flows", 0, 0);
        }
        Due.row(x, 0, 20);
        edges.is(x, 0, "flows", 0, 0);
        LeatDays y = Scene.LIVED.make();
        // RED, through 4, CLOGGED by 7.
        int[] numbers = {5, 6, 14, 70, 78};
        int[] want = {1, 2, 4, 512, 0};
        for (int i = 0; i < numbers.length; i++) {
            Due.row(y, 0, numbers[i]);
            edges.is(y, want[i], "flows", 2, 0);
        }
        edges.tells(y, 1, 1, "day", 2, 1);
    }

    /** 30: of a DAY that does not come by all can be, or none; of one that comes later, some. */
    private static void flowsOfAnother() {
        LeatDays x = Due.leat("d50d50d50");
        Due.row(x, 0, 10);
        edges.is(x, 1023, "flows", 1, 0);
        Due.row(x, 0, 11);
        edges.is(x, 0, "flows", 1, 0);
        Due.row(x, 0, 10, 18);
        edges.is(x, 512, "flows", 1, 0);
        edges.is(x, 0, "flows", 0, 0);
        // Without FLOW the WHEEL goes back to DAY 0.
        Due.row(x, 0, 10, 0, 10);
        edges.is(x, 1, "flows", 1, 0);
        Due.row(x, 0, 10, 10, 0);
        edges.is(x, 1, "flows", 2, 0);
    }

    /** 31: each KIND, through 2 and through 4, of FLOW 9, DRIFT 1: the first and the last among them. */
    private static void kindsOfFirstAndLast() {
        LeatDays x = Due.leat("d91d90");
        kinds(x, 32, 17);
        kinds(x, 4, 9);
        kinds(x, 1 | 8, 18);
        kinds(x, 2 | 16, 36);
        kinds(x, 0, 0);
        kinds(x, 0, 41);
        x.hatch(4);
        kinds(x, 16, 77);
        kinds(x, 2, 72);
        kinds(x, 32, 35);
        x.hatch(0);
        kinds(x, 63, 0);
        LeatDays y = Scene.LIVED.make();
        Due.row(y, 0, 0);
        edges.is(y, 1 | 4 | 8 | 32, "kinds", 2, 0);
        Due.row(y, 0, 6);
        edges.is(y, 16, "kinds", 2, 0);
        edges.is(y, 63, "kinds", 0, 0);
        edges.tells(y, 1, 4, "day", 2, 0);
    }

    private static void kindsByWhatTheyLeave() {
        LeatDays x = Due.leat("d91d90");
        kinds(x, 1, 18, 17);
        kinds(x, 8, 18, 14);
        kinds(x, 2 | 16, 36, 18);
        kinds(x, 32, 17, 10);
        kinds(x, 4, 9, 17);
        kinds(x, 0, 18, 18);
    }

    private static void kinds(LeatDays x, int want, int... numbers) {
        Due.row(x, 0, numbers);
        edges.is(x, want, "kinds", 0, 0);
    }

    /** 32: DAYS 0 to the last; without DAYS none. */
    private static void lookNumbers() {
        for (Scene scene : new Scene[] {Scene.LIVED, Scene.FULL}) {
            edges.bounds(scene, 0, 0, 2, "look", 0);
        }
        for (Scene scene : new Scene[] {Scene.NEW, Scene.BARE}) {
            edges.bad(scene, "look", 0);
            edges.bad(scene, "look", 8);
        }
    }

    /** 32: "(the first)": in LIVED, CLOGGED by 7, however the HATCH is. */
    private static void look() {
        LeatDays x = Scene.LIVED.make();
        // By 3: 2 11 0 2 11 1; by 4: 5 17 0 5 22 4.
        edges.tells(x, 3, 2, "look", 0);
        // FISHED; by 3: 0 5 0 0 5 0; by 4: 1 9 0 1 14 1.
        edges.tells(x, 4, 3, "look", 1);
        // By 3 nothing; by 4: 0 1 0 0 6 0.
        edges.tells(x, 4, 4, "look", 2);
        x.hatch(0);
        edges.tells(x, 3, 2, "look", 0);
        // By 1: 9 18 9 9 18 8; by 2: 18 36 9 18 36 17; whatever it is truly.
        for (char letter : "dfrpeh".toCharArray()) {
            edges.tells(Due.leat(letter + "91d00"), 2, 2, "look", 0);
        }
        // By 1, 9 less 9 alone is 0; a PIG is a DAY: 9 18 9 9 18 0, by 2 9 apart from 18.
        edges.tells(Due.leat("d99d00"), 2, 2, "look", 0);
        // Without FLOW none but a RED one GRINDS, by 4.
        edges.tells(Due.leat("d09d00"), 4, 5, "look", 0);
    }

    /** 32: "the GRATING as it is": CLOGGED by 40: by 3 0 14 0 0 14 0, by 4 0 32 0 0 37 0. */
    private static void lookClogged() {
        LeatDays x = Due.leat("h99d59");
        for (int i = 0; i < 20; i++) {
            x.step();
        }
        edges.is(x, 40, "count", 4);
        edges.tells(x, 3, 4, "look", 0);
        edges.tells(x, 4, 5, "look", 1);
    }

    /** 29 to 31 tell nothing by asked(); all four change nothing else. */
    private static void nothingElseDone() {
        LeatDays x = Scene.FULL.make();
        long before = x.digest();
        x.where(2);
        x.flows(0, 2);
        x.kinds(1, 2);
        edges.is(x, Scene.TOLD, "asked");
        x.look(2);
        edges.is(x, before, "digest");
        LeatDays twin = Scene.FULL.make();
        x.undo(0);
        twin.undo(0);
        edges.is(x, twin.digest(), "digest");
    }
}
