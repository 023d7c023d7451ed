/** Boundary cases of promises 22 to 24: 0 to 60 steps ahead, the first turn, a book of 1 to 20. */
public final class ComingEdgesTest {
    private static final int NONE = LeatDays.NONE;
    private static final Edges edges = new Edges();

    public static void main(String[] args) {
        numbers();
        withoutDays();
        millOfNone();
        millOfSixty();
        millIsAside();
        turnsInTheFirst();
        turnsInTheLast();
        turnsInNone();
        turnsGoingBack();
        bookSizes();
        bookOverEachRow();
        bookTurns();
        bookIsAside();
        edges.end();
    }

    /** 22: n 0 .. 60; 24: n 1 .. 20, ROWS 0 .. 5; BAD comes ahead of STATE. */
    private static void numbers() {
        for (Scene scene : Scene.values()) {
            edges.bounds(scene, 0, 0, 60, "mill", 0);
            edges.bounds(scene, 0, 1, 20, "book", 1, 0);
            edges.bounds(scene, 1, 0, 5, "book", 1, 0);
            edges.bounds(scene, 1, 0, 5, "book", 20, 0);
            edges.bad(scene, "book", 0, 6);
            edges.bad(scene, "book", 21, Scene.MISSING_ROW);
        }
    }

    /** 22 to 24: "STATE: no DAYS"; a ROW is not made. */
    private static void withoutDays() {
        for (Scene scene : new Scene[] {Scene.NEW, Scene.BARE}) {
            edges.state(scene, "mill", 0);
            edges.state(scene, "mill", 60);
            edges.state(scene, "turns");
            edges.state(scene, "book", 1, 0);
            edges.state(scene, "book", 20, Scene.MISSING_ROW);
        }
    }

    /** 22: in 0 STEPS nothing is GROUND, and the DAY is the one at the WHEEL now. */
    private static void millOfNone() {
        edges.tells(Due.leat("d99d99"), 0, 0, "mill", 0);
        edges.tells(Scene.LIVED.make(), 0, 2, "mill", 0);
        LeatDays x = Due.leat("d00d10d10");
        x.step();
        edges.tells(x, 0, 2, "mill", 0);
        edges.tells(x, 2, 1, "mill", 1);
    }

    /** 22: 60 STEPS, round and round, to and fro; what was GROUND so far is none of it. */
    private static void millOfSixty() {
        LeatDays most = Due.leat("e90e90e90e90e90e90e90e90e90");
        most.hatch(4);
        edges.tells(most, 77 * 60, 6, "mill", 60);
        edges.tells(most, 77 * 59, 5, "mill", 59);
        most.step();
        edges.tells(most, 77 * 60, 7, "mill", 60);
        LeatDays none = Due.leat("d00d00d00");
        edges.tells(none, 0, 0, "mill", 60);
        edges.tells(none, 0, 2, "mill", 59);
        // One more on the GRATING each STEP: 18, 17, .. 1, then 0 and to and fro.
        LeatDays less = Due.leat("d91d91");
        edges.tells(less, 171, 0, "mill", 18);
        edges.tells(less, 171, 1, "mill", 19);
        edges.tells(less, 171, 0, "mill", 60);
        // The GRATING holds 40: 72 less 4 for each STEP ahead, not below 32.
        LeatDays clogged = Due.leat("f98f98");
        clogged.hatch(4);
        edges.tells(clogged, 72 * 10 - 4 * 45, 0, "mill", 10);
        edges.tells(clogged, 540 + 50 * 32, 0, "mill", 60);
    }

    /** "(aside: nothing else done)", behind 40 DEEDS, too. */
    private static void millIsAside() {
        LeatDays x = Scene.FULL.make();
        long before = x.digest();
        x.mill(60);
        x.turns();
        edges.is(x, before, "digest");
        edges.is(x, 40, "count", 2);
        LeatDays y = Due.leat("d90d90");
        for (int i = 0; i < 40; i++) {
            y.step();
        }
        edges.tells(y, 1080, 0, "mill", 60);
        edges.is(y, NONE, "turns");
        edges.is(y, 0, "book", 20, 0);
    }

    /** 23: "In which STEP (1 .. 60)": the first, of DAY 0, of the last. */
    private static void turnsInTheFirst() {
        LeatDays x = Due.leat("d00d90");
        edges.tells(x, 1, 0, "turns");
        LeatDays y = Due.leat("d90d90d90d90d90d90d90d90d00");
        edges.tells(y, 9, 8, "turns");
        for (int i = 0; i < 8; i++) {
            y.step();
        }
        edges.tells(y, 1, 8, "turns");
        // GROUND is 2 1 1, then nothing: 1 is enough not to turn.
        edges.tells(Due.leat("d11d10d11"), 4, 0, "turns");
        LeatDays closed = Due.leat("d90d90");
        closed.hatch(0);
        edges.tells(closed, 1, 0, "turns");
    }

    /** 23: in STEP 60, and in STEP 61, which is none. */
    private static void turnsInTheLast() {
        // DAY 0 leaves 1 each round of 9; FLOW 3 by 2 GRINDS nothing at 6, in round 7.
        LeatDays x = Due.leat("d91d90d90d90d90d30d90d90d90");
        edges.tells(x, 51, 5, "turns");
        LeatDays last = Due.leat("d90d90d90d90d90d31d90d90d90");
        edges.tells(last, 60, 5, "turns");
        LeatDays beyond = Due.leat("d90d90d90d90d90d90d31d90d90");
        beyond.day(0, 1);
        edges.tells(beyond, NONE, 9, "turns");
        beyond.step();
        edges.tells(beyond, 60, 6, "turns");
    }

    /** 23: "NONE: in none"; asked() is as it was. */
    private static void turnsInNone() {
        LeatDays x = Due.leat("d10d10");
        edges.tells(x, NONE, 0, "turns");
        x.day(0, 1);
        edges.tells(x, NONE, 1, "turns");
        edges.is(x, 0, "finding");
    }

    /** 23: it TURNS also when it goes on again; the STEPS are told from now on. */
    private static void turnsGoingBack() {
        LeatDays x = Due.leat("d00d20d30");
        edges.tells(x, 1, 0, "turns");
        x.step();
        edges.tells(x, 3, 0, "turns");
        x.step();
        x.step();
        edges.tells(x, 1, 0, "turns");
        x.step();
        edges.is(x, 0, "count", 6);
        edges.tells(x, 3, 0, "turns");
    }

    /** 24: "comes to a ROW (anew)": of 1, of 20, from a ROW that was missing, shorter, longer. */
    private static void bookSizes() {
        for (int r = 0; r < 6; r++) {
            LeatDays x = Scene.LIVED.make();
            edges.is(x, 0, "book", 1, r);
            edges.row(x, r, 6);
            edges.is(x, r == Scene.MISSING_ROW ? 6 : 5, "count", 8);
        }
        for (int r = 0; r < 6; r++) {
            LeatDays x = Due.leat("d10d20");
            x.row(5, 40);
            edges.is(x, 0, "book", 20, r);
            edges.row(x, r, 2, 4, 2, 4, 2, 4, 2, 4, 2, 4, 2, 4, 2, 4, 2, 4, 2, 4, 2, 4);
        }
    }

    private static void bookOverEachRow() {
        LeatDays x = Due.leat("d10d20d30");
        for (int r = 0; r < 6; r++) {
            edges.is(x, 0, "book", r + 1, r);
            edges.is(x, r + 1, "count", 8);
        }
        edges.row(x, 0, 2);
        edges.row(x, 1, 2, 4);
        edges.row(x, 5, 2, 4, 6, 2, 4, 6);
        edges.is(x, 0, "book", 1, 5);
        edges.row(x, 5, 2);
        edges.row(x, 4, 2, 4, 6, 2, 4);
    }

    /** 24: "how often the WHEEL TURNS in them": never, always, in the last. */
    private static void bookTurns() {
        LeatDays x = Due.leat("d00d00");
        edges.is(x, 1, "book", 1, 0);
        edges.is(x, 20, "book", 20, 0);
        LeatDays y = Due.leat("d10d10d00");
        edges.is(y, 0, "book", 2, 0);
        edges.is(y, 1, "book", 3, 0);
        edges.row(y, 0, 2, 2, 0);
        edges.is(y, 2, "book", 6, 0);
        edges.row(y, 0, 2, 2, 0, 2, 2, 0);
    }

    /** 24: nothing but the ROW is changed. */
    private static void bookIsAside() {
        LeatDays x = Scene.FULL.make();
        LeatDays twin = Scene.FULL.make();
        x.book(20, 2);
        edges.is(x, Scene.TOLD, "asked");
        x.tear(2);
        twin.tear(2);
        edges.is(x, twin.digest(), "digest");
        edges.is(x, Edges.NOUGHT, "finding");
    }
}
