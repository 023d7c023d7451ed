/** Boundary cases of promises 1 to 7: a new object, rows of 0 to 40 ints. */
public final class RowsEdgesTest {
    private static final int NOTHING = Edges.NOTHING, BEYOND = Edges.BEYOND, NOUGHT = Edges.NOUGHT, SIZE = Edges.SIZE;
    private static final int MIN = Edges.MIN, MAX = Edges.MAX;
    private static final int MISSING = Scene.MISSING_ROW;
    private static final Edges edges = new Edges();

    public static void main(String[] args) {
        newObjectHasNothing();
        rowNumbers();
        rowsAreApart();
        rowSizes();
        rowAboveForty();
        rowBelowNone();
        rowAnew();
        placesThatThereAreNot();
        layAndAtOfMissing();
        laidInts();
        tearTwice();
        tearOfMissing();
        copyOrder();
        copyBeyond();
        copyOfNone();
        copyOfAll();
        copyToItself();
        meanOfNone();
        meanOfMissing();
        meanCut();
        meanOfForty();
        edges.end();
    }

    /** 1: "No ROWS, TEXTS, DAYS", also where another object has them. */
    private static void newObjectHasNothing() {
        Scene.FULL.make();
        LeatDays x = new LeatDays();
        edges.counts(x, 0, 0, 0, 0, 0, 0, 0, 0, 0, 0, 0, 0, 0);
        for (int r = 0; r < 6; r++) {
            edges.findsOn(x, NOTHING, "at", r, 0);
        }
        for (int t = 0; t < 4; t++) {
            edges.findsOn(x, NOTHING, "fault", t);
        }
        for (int k = 0; k < 9; k++) {
            edges.refusedOn(x, LeatDays.BAD, "day", k, 0);
        }
        for (int k = 0; k < 3; k++) {
            edges.findsOn(x, NOTHING, "on", k);
        }
    }

    /** ROWS are 0 .. 5; BAD comes ahead of each FINDING. */
    private static void rowNumbers() {
        for (Scene scene : Scene.values()) {
            edges.bounds(scene, 0, 0, 5, "row", 0, 1);
            edges.bounds(scene, 0, 0, 5, "lay", 0, 0, 1);
            edges.bounds(scene, 0, 0, 5, "at", 0, 0);
            edges.bounds(scene, 0, 0, 5, "tear", 0);
            edges.bounds(scene, 0, 0, 5, "copy", 0, 0, 0, 0, 0);
            edges.bounds(scene, 2, 0, 5, "copy", 0, 0, 0, 0, 0);
            edges.bounds(scene, 0, 0, 5, "mean", 0);
        }
    }

    private static void rowsAreApart() {
        LeatDays x = new LeatDays();
        for (int r = 0; r < 6; r++) {
            edges.is(x, r + 1, "row", r, r + 1);
            edges.is(x, r + 1, "count", 8);
        }
        for (int r = 0; r < 6; r++) {
            edges.tells(x, 1, 0, "lay", r, r, 100 + r);
        }
        edges.row(x, 0, 100);
        edges.row(x, 1, 0, 101);
        edges.row(x, 5, 0, 0, 0, 0, 0, 105);
        edges.is(x, 1, "tear", 3);
        edges.is(x, 5, "count", 8);
        edges.row(x, 2, 0, 0, 102);
        edges.row(x, 4, 0, 0, 0, 0, 104);
    }

    /** 2: "n ints 0: n", 0 and 40 among them; the last place is there, the one behind is not. */
    private static void rowSizes() {
        for (int n = 0; n <= 40; n++) {
            LeatDays x = new LeatDays();
            edges.is(x, n, "row", n % 6, n);
            edges.row(x, n % 6, new int[n]);
            edges.is(x, 1, "count", 8);
        }
    }

    /** 2: "BAD: also n above 40". */
    private static void rowAboveForty() {
        for (Scene scene : Scene.values()) {
            for (int n : new int[] {41, 60, 61, MAX}) {
                edges.bad(scene, "row", 0, n);
                edges.bad(scene, "row", MISSING, n);
                edges.bad(scene, "row", 6, n);
            }
        }
    }

    /** 2: "SIZE: below 0", behind BAD. */
    private static void rowBelowNone() {
        for (Scene scene : Scene.values()) {
            for (int n : new int[] {-1, MIN}) {
                edges.finds(scene, SIZE, "row", 0, n);
                edges.finds(scene, SIZE, "row", 5, n);
                edges.finds(scene, SIZE, "row", MISSING, n);
                edges.bad(scene, "row", -1, n);
                edges.bad(scene, "row", 6, n);
            }
        }
    }

    /** 2: a ROW that was there is there with 0 alone, shorter, as long, longer. */
    private static void rowAnew() {
        LeatDays x = new LeatDays();
        Due.row(x, 0, 1, 2, 3);
        edges.is(x, 3, "row", 0, 3);
        edges.row(x, 0, 0, 0, 0);
        Due.row(x, 0, 1, 2, 3);
        edges.is(x, 1, "row", 0, 1);
        edges.row(x, 0, 0);
        edges.is(x, 3, "row", 0, 3);
        edges.row(x, 0, 0, 0, 0);
        Due.row(x, 0, 1, 2, 3);
        edges.is(x, 0, "row", 0, 0);
        edges.row(x, 0);
        edges.is(x, 5, "row", 0, 5);
        edges.row(x, 0, 0, 0, 0, 0, 0);
        Due.row(x, 0, 1, 2, 3);
        edges.is(x, 1, "tear", 0);
        edges.is(x, 4, "row", 0, 4);
        edges.row(x, 0, 0, 0, 0, 0);
        edges.is(x, 1, "count", 8);
    }

    /** 3, 4: "BEYOND". */
    private static void placesThatThereAreNot() {
        for (int i : new int[] {MIN, -1, 3, 4, 39, 40, MAX}) {
            edges.finds(Scene.LIVED, BEYOND, "lay", 0, i, 9);
            edges.finds(Scene.LIVED, BEYOND, "at", 0, i);
        }
        for (int i : new int[] {MIN, -1, 0, 1, MAX}) {
            edges.finds(Scene.BARE, BEYOND, "lay", Scene.EMPTY_ROW, i, 9);
            edges.finds(Scene.BARE, BEYOND, "at", Scene.EMPTY_ROW, i);
        }
        for (int i : new int[] {-1, 40, 59, 60}) {
            edges.finds(Scene.FULL, BEYOND, "lay", 5, i, 9);
            edges.finds(Scene.FULL, BEYOND, "at", 5, i);
        }
        LeatDays x = Scene.FULL.make();
        edges.tells(x, 1, 0, "at", 5, 0);
        edges.tells(x, 1, -7, "at", 5, 39);
        edges.tells(x, 1, 44, "lay", 0, 0, 1);
        edges.tells(x, 1, 66, "lay", 0, 2, 3);
        edges.row(x, 0, 1, Scene.TOLD, 3);
    }

    /** 3, 4: "NOTHING", ahead of BEYOND. */
    private static void layAndAtOfMissing() {
        for (int i : new int[] {MIN, -1, 0, 40, MAX}) {
            edges.finds(Scene.LIVED, NOTHING, "lay", MISSING, i, 9);
            edges.finds(Scene.LIVED, NOTHING, "at", MISSING, i);
            edges.finds(Scene.NEW, NOTHING, "lay", 0, i, 9);
            edges.finds(Scene.NEW, NOTHING, "at", 5, i);
        }
    }

    /** 3: any int is laid, and what it was is told. */
    private static void laidInts() {
        LeatDays x = new LeatDays();
        x.row(2, 1);
        edges.tells(x, 1, 0, "lay", 2, 0, MIN);
        edges.tells(x, 1, MIN, "lay", 2, 0, MAX);
        edges.tells(x, 1, MAX, "lay", 2, 0, -1);
        edges.tells(x, 1, -1, "at", 2, 0);
        edges.tells(x, 1, -1, "at", 2, 0);
        edges.tells(x, 1, -1, "lay", 2, 0, 0);
        edges.tells(x, 1, 0, "lay", 2, 0, 0);
    }

    /** 5: a ROW is missing then: every call on a ROW says so. */
    private static void tearTwice() {
        LeatDays x = Scene.LIVED.make();
        edges.is(x, 1, "tear", 0);
        edges.findsOn(x, NOTHING, "tear", 0);
        edges.findsOn(x, NOTHING, "at", 0, 0);
        edges.findsOn(x, NOTHING, "lay", 0, 0, 0);
        edges.findsOn(x, NOTHING, "mean", 0);
        edges.findsOn(x, NOTHING, "copy", 0, 0, 2, 0, 0);
        edges.findsOn(x, NOTHING, "where", 0);
        edges.is(x, 1, "tear", Scene.EMPTY_ROW);
        edges.findsOn(x, NOTHING, "mean", Scene.EMPTY_ROW);
        edges.is(x, 1, "tear", 5);
        edges.is(x, 2, "count", 8);
        edges.is(x, 0, "row", 0, 0);
        edges.is(x, 1, "tear", 0);
    }

    /** 5: "NOTHING". */
    private static void tearOfMissing() {
        for (int r = 0; r < 6; r++) {
            edges.finds(Scene.NEW, NOTHING, "tear", r);
        }
        edges.finds(Scene.BARE, NOTHING, "tear", MISSING);
        edges.finds(Scene.LIVED, NOTHING, "tear", MISSING);
        edges.finds(Scene.FULL, NOTHING, "tear", MISSING);
    }

    /** 6: BAD, SIZE, NOTHING (either), BEYOND, in this order. */
    private static void copyOrder() {
        edges.bad(Scene.LIVED, "copy", 6, 99, MISSING, 99, -1);
        edges.bad(Scene.LIVED, "copy", MISSING, 99, -1, 99, -1);
        edges.bad(Scene.LIVED, "copy", -1, 0, 6, 0, 0);
        edges.finds(Scene.LIVED, SIZE, "copy", MISSING, 99, MISSING, 99, -1);
        edges.finds(Scene.LIVED, SIZE, "copy", 0, 99, MISSING, 0, MIN);
        edges.finds(Scene.LIVED, SIZE, "copy", 0, 1, 5, 1, -1);
        edges.finds(Scene.LIVED, SIZE, "copy", 0, -1, 5, -1, -1);
        edges.finds(Scene.NEW, SIZE, "copy", 0, 0, 0, 0, -1);
        edges.finds(Scene.LIVED, NOTHING, "copy", MISSING, 99, 0, 99, 1);
        edges.finds(Scene.LIVED, NOTHING, "copy", 0, 99, MISSING, -1, 41);
        edges.finds(Scene.LIVED, NOTHING, "copy", MISSING, 0, MISSING, 0, 0);
        edges.finds(Scene.LIVED, NOTHING, "copy", 0, 0, MISSING, 0, 0);
        edges.finds(Scene.LIVED, NOTHING, "copy", MISSING, 0, 0, 0, 0);
        edges.finds(Scene.NEW, NOTHING, "copy", 0, 0, 1, 0, MAX);
    }

    /** 6: "BEYOND: not so many there", in either ROW, ahead of it, behind it. */
    private static void copyBeyond() {
        int[][] calls = {
            {0, 0, 5, 0, 4}, {0, 1, 5, 0, 3}, {0, 2, 5, 0, 2}, {0, 3, 5, 0, 1}, {0, 4, 5, 0, 0}, {0, -1, 5, 0, 0},
            {0, -1, 5, 0, 1}, {0, MIN, 5, 0, 0}, {0, MAX, 5, 0, 1}, {0, 1, 5, 0, MAX}, {0, MAX, 5, 0, MAX},
            {5, 0, 0, 0, 4}, {5, 0, 0, 1, 3}, {5, 0, 0, 2, 2}, {5, 0, 0, 3, 1}, {5, 0, 0, 4, 0}, {5, 0, 0, -1, 0},
            {5, 0, 0, -1, 1}, {5, 0, 0, MIN, 0}, {5, 0, 0, MAX, 1}, {5, 0, 0, MAX, MAX}, {5, 0, 5, 0, 41},
            {5, 1, 5, 0, 40}, {5, 0, 5, 1, 40}, {5, 40, 5, 0, 1}, {5, 41, 5, 0, 0}, {1, 0, 5, 0, 1}, {5, 0, 1, 0, 1},
            {1, 1, 1, 0, 0}, {1, 0, 1, 1, 0}, {5, 0, 5, 0, MAX}, {5, 0, 5, 0, 60},
        };
        for (int[] call : calls) {
            edges.finds(Scene.LIVED, BEYOND, "copy", call);
        }
    }

    /** 6: no places are there from each place on, and from the end; nothing is changed by them. */
    private static void copyOfNone() {
        LeatDays x = Scene.LIVED.make();
        long before = x.digest();
        edges.is(x, 1, "copy", 0, 0, 5, 0, 0);
        edges.is(x, 1, "copy", 0, 3, 5, 40, 0);
        edges.is(x, 1, "copy", 1, 0, 1, 0, 0);
        edges.is(x, 1, "copy", 1, 0, 0, 3, 0);
        edges.is(x, before, "digest");
        edges.is(x, Scene.TOLD, "asked");
    }

    /** 6: as many as there are: the first, the last, all 40. */
    private static void copyOfAll() {
        LeatDays x = new LeatDays();
        x.row(0, 40);
        x.row(5, 40);
        for (int i = 0; i < 40; i++) {
            x.lay(0, i, i + 1);
        }
        edges.is(x, 1, "copy", 0, 39, 5, 0, 1);
        edges.tells(x, 1, 40, "at", 5, 0);
        edges.is(x, 1, "copy", 0, 0, 5, 39, 1);
        edges.tells(x, 1, 1, "at", 5, 39);
        edges.tells(x, 1, 0, "at", 5, 38);
        edges.is(x, 1, "copy", 0, 0, 5, 0, 40);
        for (int i = 0; i < 40; i++) {
            edges.tells(x, 1, i + 1, "at", 5, i);
            edges.tells(x, 1, i + 1, "at", 0, i);
        }
    }

    /** 6: "(perhaps itself) .. as if taken ahead", forth, back, by one, by most, onto itself. */
    private static void copyToItself() {
        LeatDays x = new LeatDays();
        Due.row(x, 3, 1, 2, 3, 4, 5, 6);
        edges.is(x, 1, "copy", 3, 0, 3, 1, 5);
        edges.row(x, 3, 1, 1, 2, 3, 4, 5);
        edges.is(x, 1, "copy", 3, 1, 3, 0, 5);
        edges.row(x, 3, 1, 2, 3, 4, 5, 5);
        edges.is(x, 1, "copy", 3, 0, 3, 2, 4);
        edges.row(x, 3, 1, 2, 1, 2, 3, 4);
        edges.is(x, 1, "copy", 3, 3, 3, 0, 3);
        edges.row(x, 3, 2, 3, 4, 2, 3, 4);
        edges.is(x, 1, "copy", 3, 0, 3, 0, 6);
        edges.row(x, 3, 2, 3, 4, 2, 3, 4);
        edges.is(x, 1, "copy", 3, 0, 3, 5, 1);
        edges.row(x, 3, 2, 3, 4, 2, 3, 2);
    }

    /** 7: "NOUGHT": shared among none. */
    private static void meanOfNone() {
        edges.finds(Scene.BARE, NOUGHT, "mean", Scene.EMPTY_ROW);
        edges.finds(Scene.LIVED, NOUGHT, "mean", Scene.EMPTY_ROW);
        edges.finds(Scene.FULL, NOUGHT, "mean", Scene.EMPTY_ROW);
    }

    /** 7: "NOTHING". */
    private static void meanOfMissing() {
        for (int r = 0; r < 6; r++) {
            edges.finds(Scene.NEW, NOTHING, "mean", r);
        }
        edges.finds(Scene.LIVED, NOTHING, "mean", MISSING);
    }

    /** 7: "cut": what is left over goes, on either side of 0. */
    private static void meanCut() {
        int[][] rows = {{0}, {-1}, {MAX}, {MIN}, {1, 0}, {-1, 0}, {1, 1, 0}, {-1, -1, 0}, {2, 1}, {-2, -1}, {MAX, MAX},
            {MIN, MIN}, {MAX, MIN}, {MIN, MAX, 1}, {MAX, MAX, MAX, 0}, {MIN, MIN, MIN, 0}, {7, -7, 0}};
        int[] means = {0, -1, MAX, MIN, 0, 0, 0, 0, 1, -1, MAX, MIN, 0, 0, 1610612735, -1610612736, 0};
        LeatDays x = new LeatDays();
        for (int i = 0; i < rows.length; i++) {
            Due.row(x, 0, rows[i]);
            edges.tells(x, 1, means[i], "mean", 0);
        }
        // What stood behind the end of a shorter ROW is none of it.
        Due.row(x, 0, 1, 2, 300);
        Due.row(x, 0, 1, 3);
        edges.tells(x, 1, 2, "mean", 0);
    }

    /** 7: the sum of 40 ints is beyond an int. */
    private static void meanOfForty() {
        for (int v : new int[] {MIN, -3, 0, 3, MAX}) {
            LeatDays x = new LeatDays();
            x.row(1, 40);
            for (int i = 0; i < 40; i++) {
                x.lay(1, i, v);
            }
            edges.tells(x, 1, v, "mean", 1);
        }
        LeatDays x = new LeatDays();
        x.row(1, 40);
        x.lay(1, 39, 39);
        edges.tells(x, 1, 0, "mean", 1);
        x.lay(1, 0, 1);
        edges.tells(x, 1, 1, "mean", 1);
    }
}
