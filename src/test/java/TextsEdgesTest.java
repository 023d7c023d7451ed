/** Boundary cases of promises 8 to 11: texts of 0 to 60 bytes, faults, leats of 2 to 9 days. */
public final class TextsEdgesTest {
    private static final int NOTHING = Edges.NOTHING, BEYOND = Edges.BEYOND, SIZE = Edges.SIZE;
    private static final int MIN = Edges.MIN, MAX = Edges.MAX, NONE = LeatDays.NONE;
    private static final int MISSING = Scene.MISSING_TEXT;
    private static final String EIGHT = "d12f34r56p78e90h12d34d56";
    private static final Edges edges = new Edges();

    public static void main(String[] args) {
        textNumbers();
        textsAreApart();
        textSizes();
        textAboveSixty();
        textBelowNone();
        textAnew();
        putBytes();
        putBeyond();
        putOfMissing();
        everyByteAsALetter();
        everyByteAsAFigure();
        everyByteBehindTheLast();
        blanks();
        blanksWithin();
        endTooEarly();
        fewerThanTwoDays();
        tenthDay();
        fullText();
        faultOfMissing();
        faultChangesNothing();
        leatOrder();
        leatOfTwoToNine();
        leatAnew();
        leatIsNoLongerItsText();
        edges.end();
    }

    /** TEXTS are 0 .. 3; BAD comes ahead of each FINDING and of STATE. */
    private static void textNumbers() {
        for (Scene scene : Scene.values()) {
            edges.bounds(scene, 0, 0, 3, "text", 0, 1);
            edges.bounds(scene, 0, 0, 3, "put", 0, 0, 1);
            edges.bounds(scene, 0, 0, 3, "fault", 0);
            edges.bounds(scene, 0, 0, 3, "leat", 0);
        }
    }

    private static void textsAreApart() {
        LeatDays x = new LeatDays();
        for (int t = 0; t < 4; t++) {
            edges.is(x, t + 1, "text", t, t + 1);
            edges.is(x, t + 1, "count", 9);
        }
        for (int t = 0; t < 4; t++) {
            edges.is(x, 1032, "put", t, t, 50 + t);
        }
        for (int t = 0; t < 4; t++) {
            edges.is(x, 1050 + t, "put", t, t, 0);
            edges.findsOn(x, BEYOND, "put", t, t + 1, 0);
        }
        edges.is(x, 0, "count", 8);
    }

    /** 8: "n blanks: n", 0 and 60 among them; the last byte is there, the one behind is not. */
    private static void textSizes() {
        for (int n = 0; n <= 60; n++) {
            LeatDays x = new LeatDays();
            edges.is(x, n, "text", n % 4, n);
            for (int i = 0; i < n; i++) {
                edges.is(x, 1032, "put", n % 4, i, 32);
            }
            edges.findsOn(x, BEYOND, "put", n % 4, n, 32);
            edges.is(x, 1, "count", 9);
        }
    }

    /** 8: "BAD: also n above 60". */
    private static void textAboveSixty() {
        for (Scene scene : Scene.values()) {
            for (int n : new int[] {61, MAX}) {
                edges.bad(scene, "text", 0, n);
                edges.bad(scene, "text", MISSING, n);
                edges.bad(scene, "text", 4, n);
            }
        }
    }

    /** 8: "SIZE: below 0", behind BAD. */
    private static void textBelowNone() {
        for (Scene scene : Scene.values()) {
            for (int n : new int[] {-1, MIN}) {
                edges.finds(scene, SIZE, "text", 0, n);
                edges.finds(scene, SIZE, "text", MISSING, n);
                edges.bad(scene, "text", -1, n);
                edges.bad(scene, "text", 4, n);
            }
        }
    }

    /** 8: a TEXT that was there is there with blanks alone, shorter, as long, longer. */
    private static void textAnew() {
        LeatDays x = new LeatDays();
        for (int n : new int[] {6, 3, 6, 0, 7}) {
            Due.write(x, 1, "d12f34");
            edges.is(x, n, "text", 1, n);
            edges.is(x, n, "fault", 1);
            for (int i = 0; i < n; i++) {
                edges.is(x, 1032, "put", 1, i, 100);
            }
            edges.findsOn(x, BEYOND, "put", 1, n, 100);
        }
        edges.is(x, 1, "count", 9);
    }

    /** 9: "cut to a byte: what it was, and 1000 more". */
    private static void putBytes() {
        int[] given = {0, 1, 127, 128, 255, 256, 257, -1, -128, -129, -256, MAX, MIN, 65536 + 100};
        int[] bytes = {0, 1, 127, -128, -1, 0, 1, -1, -128, 127, 0, -1, 0, 100};
        LeatDays x = new LeatDays();
        x.text(3, 60);
        int was = 32;
        for (int i = 0; i < given.length; i++) {
            edges.is(x, 1000 + was, "put", 3, 59, given[i]);
            was = bytes[i];
        }
        edges.is(x, 1032, "put", 3, 58, 0);
        edges.is(x, 0, "asked");
    }

    /** 9: "BEYOND". */
    private static void putBeyond() {
        for (int i : new int[] {MIN, -1, 9, 10, 59, 60, MAX}) {
            edges.finds(Scene.LIVED, BEYOND, "put", 0, i, 100);
        }
        for (int i : new int[] {-1, 0, 1}) {
            edges.finds(Scene.BARE, BEYOND, "put", 2, i, 100);
        }
    }

    /** 9: "NOTHING", ahead of BEYOND. */
    private static void putOfMissing() {
        for (int i : new int[] {MIN, -1, 0, 60, MAX}) {
            edges.finds(Scene.LIVED, NOTHING, "put", MISSING, i, 100);
            edges.finds(Scene.NEW, NOTHING, "put", 0, i, 100);
        }
    }

    /** 10: six letters are such, a blank is none of an item, each other byte is a FAULT at its place. */
    private static void everyByteAsALetter() {
        for (int b = -128; b < 128; b++) {
            boolean letter = "dfrpeh".indexOf((char) b) >= 0;
            faultWith("?12f34", 0, b, letter ? NONE : b == 32 ? 1 : 0);
            faultWith("d12?34", 3, b, letter ? NONE : b == 32 ? 4 : 3);
            faultWith("d12f34 ?", 7, b, letter ? 8 : b == 32 ? NONE : 7);
        }
        kindOf('d', 0);
        kindOf('f', 1);
        kindOf('r', 2);
        kindOf('p', 3);
        kindOf('e', 4);
        kindOf('h', 5);
    }

    private static void kindOf(char letter, int kind) {
        LeatDays x = Due.leat("d00" + letter + "00");
        edges.tells(x, 1, kind, "day", 1, 0);
    }

    /** 10: ten figures are such, for the FLOW, for the DRIFT, of the first DAY, of the last. */
    private static void everyByteAsAFigure() {
        for (int b = -128; b < 128; b++) {
            boolean figure = b >= 48 && b <= 57;
            faultWith("d?2f34", 1, b, figure ? NONE : 1);
            faultWith("d1?f34", 2, b, figure ? NONE : 2);
            faultWith("d12f?4", 4, b, figure ? NONE : 4);
            faultWith("d12f3?", 5, b, figure ? NONE : 5);
        }
        for (int v = 0; v <= 9; v++) {
            LeatDays x = Due.leat("d" + v + (9 - v) + "d00");
            edges.tells(x, 1, v, "day", 0, 1);
            edges.tells(x, 1, 9 - v, "day", 0, 2);
        }
    }

    /** 10: "a tenth DAY: its place", and so for whatever else stands there; blanks may. */
    private static void everyByteBehindTheLast() {
        for (int b = -128; b < 128; b++) {
            faultWith(EIGHT + "d78?", 27, b, b == 32 ? NONE : 27);
        }
    }

    private static void faultWith(String text, int i, int b, int want) {
        LeatDays x = new LeatDays();
        Due.write(x, 0, text);
        x.put(0, i, b);
        edges.is(x, want, "fault", 0);
        edges.is(x, want == NONE ? text.length() / 3 : LeatDays.STATE, "leat", 0);
        edges.is(x, 0, "finding");
    }

    private static void fault(String text, int want) {
        LeatDays x = new LeatDays();
        Due.write(x, 2, text);
        edges.is(x, want, "fault", 2);
    }

    /** "blanks (32) ahead, between, behind as many as wanted": none, one, all that there is room for. */
    private static void blanks() {
        fault("d12f34", NONE);
        fault(" d12f34", NONE);
        fault("d12 f34", NONE);
        fault("d12f34 ", NONE);
        fault(" ".repeat(54) + "d12f34", NONE);
        fault("d12" + " ".repeat(54) + "f34", NONE);
        fault("d12f34" + " ".repeat(54), NONE);
        fault(" ".repeat(18) + "d12" + " ".repeat(18) + "f34" + " ".repeat(18), NONE);
    }

    /** "none within items". */
    private static void blanksWithin() {
        fault("d 12f34", 1);
        fault("d1 2f34", 2);
        fault("d12f 34", 4);
        fault("d12f3 4", 5);
        fault("  d 12", 3);
        fault(EIGHT + " d 1", 26);
    }

    /** "the TEXT's size, if its end comes too early". */
    private static void endTooEarly() {
        fault("d", 1);
        fault("d1", 2);
        fault("d12f", 4);
        fault("d12f3", 5);
        fault("d12f34r", 7);
        fault("d12f34r5", 8);
        fault(EIGHT + "d", 25);
        fault(EIGHT + "d7", 26);
        fault(" ".repeat(59) + "d", 60);
        fault(" ".repeat(58) + "d1", 60);
        fault("d12" + " ".repeat(56) + "f", 60);
        fault("d12" + " ".repeat(55) + "f3", 60);
    }

    /** "or there are less than 2 DAYS, or blanks alone": none, one; blanks 0 to 60. */
    private static void fewerThanTwoDays() {
        fault("", 0);
        fault(" ", 1);
        fault(" ".repeat(59), 59);
        fault(" ".repeat(60), 60);
        fault("d12", 3);
        fault(" d12", 4);
        fault("d12 ", 4);
        fault("d12" + " ".repeat(57), 60);
        fault(" ".repeat(57) + "d12", 60);
    }

    /** "a tenth DAY: its place", whether it is whole or not. */
    private static void tenthDay() {
        fault(EIGHT, NONE);
        fault(EIGHT + "d78", NONE);
        fault(EIGHT + "d78d", 27);
        fault(EIGHT + "d78d1", 27);
        fault(EIGHT + "d78d12", 27);
        fault(EIGHT + "d78  d12", 29);
        fault("  " + EIGHT + " d78 d12 ", 31);
        fault(EIGHT + "d78" + " ".repeat(32) + "d", 59);
        fault(EIGHT + "d78" + " ".repeat(30) + "d12", 57);
        fault(EIGHT + "d78d12d34", 27);
        fault(EIGHT + "x78d12", 24);
    }

    /** A TEXT of 60 bytes: its last item ends at place 59. */
    private static void fullText() {
        String text = EIGHT + " ".repeat(33) + "h98";
        fault(text, NONE);
        LeatDays x = Due.leat(text);
        edges.is(x, 9, "count", 0);
        edges.tells(x, 1, 5, "day", 8, 0);
        edges.tells(x, 1, 9, "day", 8, 1);
        edges.tells(x, 1, 8, "day", 8, 2);
        edges.refusedOn(x, LeatDays.BAD, "day", 9, 0);
    }

    /** 10, 11: "NOTHING". */
    private static void faultOfMissing() {
        for (int t = 0; t < 4; t++) {
            edges.finds(Scene.NEW, NOTHING, "fault", t);
            edges.finds(Scene.NEW, NOTHING, "leat", t);
        }
        edges.finds(Scene.LIVED, NOTHING, "fault", MISSING);
        edges.finds(Scene.FULL, NOTHING, "fault", MISSING);
    }

    /** 10: a FAULT is an answer, no FINDING. */
    private static void faultChangesNothing() {
        LeatDays x = Scene.FULL.make();
        edges.refusedOn(x, 2, "fault", Scene.FAULTY_TEXT);
        edges.refusedOn(x, 0, "fault", 2);
        edges.refusedOn(x, NONE, "fault", 0);
    }

    /** 11: BAD, NOTHING, STATE: "(STATE behind NOTHING.)"; the LEAT that was there stays with all. */
    private static void leatOrder() {
        for (Scene scene : new Scene[] {Scene.BARE, Scene.LIVED, Scene.FULL}) {
            edges.finds(scene, NOTHING, "leat", MISSING);
            edges.state(scene, "leat", Scene.FAULTY_TEXT);
            edges.state(scene, "leat", 2);
            edges.bad(scene, "leat", 4);
            edges.bad(scene, "leat", -1);
        }
    }

    /** "DAYS (2 to 9; 0, 1, .. as they come)". */
    private static void leatOfTwoToNine() {
        String all = "h01f12p23e34r45d56h67f78p89";
        int[] kinds = {5, 1, 3, 4, 2, 0, 5, 1, 3};
        for (int n = 2; n <= 9; n++) {
            LeatDays x = new LeatDays();
            Due.write(x, 3, all.substring(0, 3 * n));
            edges.is(x, n, "leat", 3);
            edges.is(x, n, "count", 0);
            for (int k = 0; k < n; k++) {
                edges.tells(x, 1, kinds[k], "day", k, 0);
                edges.tells(x, 1, k, "day", k, 1);
                edges.tells(x, 1, k < 8 ? k + 1 : 9, "day", k, 2);
            }
            edges.refusedOn(x, LeatDays.BAD, "day", n, 0);
        }
    }

    /** 11: "anew: as told at first, no DEEDS; kept LEATS go", from 40 DEEDS, too; ROWS and what is told stay. */
    private static void leatAnew() {
        LeatDays x = Scene.FULL.make();
        long upper = x.upper();
        edges.is(x, 3, "leat", 0);
        edges.counts(x, 3, 0, 0, 2, 0, 0, 0, 0, 5, 3, 0, 1, 1);
        edges.tells(x, 1, 2, "day", 1, 2);
        edges.tells(x, 1, 0, "day", 1, 5);
        edges.refusedOn(x, LeatDays.BAD, "undo", 1);
        edges.is(x, 0, "undo", 0);
        for (int k = 0; k < 3; k++) {
            edges.findsOn(x, NOTHING, "on", k);
        }
        edges.is(x, upper, "upper");
        edges.tells(x, 6, 1, "step");
        LeatDays y = Scene.LIVED.make();
        edges.is(y, 3, "leat", 0);
        edges.is(y, Scene.TOLD, "asked");
        edges.is(y, Edges.NOUGHT, "finding");
        fewerDaysAnew();
    }

    /** A DAY that the LEAT before had is none of this one. */
    private static void fewerDaysAnew() {
        LeatDays x = Due.leat(EIGHT + "d78");
        for (int i = 0; i < 8; i++) {
            x.step();
        }
        x.fish(8);
        Due.write(x, 1, "p11p22");
        edges.is(x, 2, "leat", 1);
        edges.counts(x, 2, 0, 0, 2, 0, 0, 0, 0, 0, 2, 0, 0, 2);
        edges.refusedOn(x, LeatDays.BAD, "day", 2, 0);
        edges.refusedOn(x, LeatDays.BAD, "fish", 8);
        edges.tells(x, 2, 1, "step");
        edges.refusedOn(x, LeatDays.BAD, "grinds", 2, 0, 0);
    }

    /** What becomes of the TEXT then is nothing to the LEAT, its DEEDS undone, or gone on from. */
    private static void leatIsNoLongerItsText() {
        LeatDays x = Due.leat("d12f34");
        x.step();
        x.keep(1);
        x.text(0, 60);
        edges.is(x, 2, "count", 0);
        edges.tells(x, 1, 3, "day", 1, 1);
        edges.is(x, 1, "undo", 0);
        edges.tells(x, 2, 1, "step");
        edges.is(x, 1, "on", 1);
        edges.tells(x, 1, 2, "day", 0, 2);
    }
}
