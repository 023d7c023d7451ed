import java.util.ArrayList;
import java.util.List;

/** Boundary cases of promises 37 to 43 and of the terms: what is told, by which calls, and by which not. */
public final class TellingEdgesTest {
    private static final int NOTHING = Edges.NOTHING, BEYOND = Edges.BEYOND, UNLIKE = Edges.UNLIKE;
    private static final int NOUGHT = Edges.NOUGHT, SIZE = Edges.SIZE;
    private static final Edges edges = new Edges();

    public static void main(String[] args) {
        before();
        numbers();
        askedByNoOthers();
        askedByEach();
        askedAsItWasByNone();
        partsByNoOthers();
        partsByEach();
        countWithoutDays();
        countOfAll();
        countGoesDown();
        findingsOfEach();
        findingByNoOthers();
        digestOfNone();
        digestOfAll();
        digestOfKept();
        digestTellsNothing();
        fiveHundredAndTwelve();
        edges.end();
    }

    /** 37 to 42: "0 before", "1 before", "0 before any". */
    private static void before() {
        LeatDays x = new LeatDays();
        edges.is(x, 0, "asked");
        edges.is(x, 0, "upper");
        edges.is(x, 1, "lower");
        edges.is(x, 0, "finding");
        for (int f = 1; f <= 5; f++) {
            edges.is(x, 0, "findings", f);
        }
    }

    /** 40: 0 to 12; 42: "(1 .. 5)". */
    private static void numbers() {
        for (Scene scene : Scene.values()) {
            edges.bounds(scene, 0, 0, 12, "count", 0);
            edges.bounds(scene, 0, 1, 5, "findings", 1);
        }
    }

    /** Calls that are not refused in LIVED and tell nothing by asked(), the name ahead of the arguments. */
    private static final String UNTOLD = "row 0 40;tear 0;copy 0 0 5 0 3;text 0 60;put 0 0 9;fault 0;fault 1;leat 0;"
            + "mark 1 5;mark 2 1;grinds 0 4 40;hatch 0;rake;fish 0;undo 0;undo 5;keep 1;on 0;book 20 0;plan 5 0;where 2;"
            + "flows 0 2;kinds 2 2;duel 6;lots 20 2;count 5;finding;findings 4;digest;upper;lower";
    private static final String TOLD = "lay 0 0 1;at 0 0;mean 0;day 2 5;step;mill 60;turns;best 20;rakes 8 0;fishes 20;"
            + "look 0";

    private static void each(String calls, Each each) {
        for (String call : calls.split(";")) {
            String[] words = call.split(" ");
            int[] a = new int[words.length - 1];
            for (int i = 0; i < a.length; i++) {
                a[i] = Integer.parseInt(words[i + 1]);
            }
            each.call(Scene.LIVED.make(), words[0], a);
        }
    }

    private interface Each {
        void call(LeatDays x, String name, int[] a);
    }

    /** 37: "the latest lay(), at(), mean(), day(), step(), mill(), turns(), best(), rakes(), fishes(), look()". */
    private static void askedByNoOthers() {
        each(UNTOLD + ";odds 0 0;mid 0", (x, name, a) -> {
            edges.answers(x, name, a);
            edges.is(x, Scene.TOLD, "asked");
            edges.is(x, NOUGHT, "finding");
        });
    }

    private static void askedByEach() {
        LeatDays x = Scene.LIVED.make();
        edges.tells(x, 1, 44, "lay", 0, 0, 1);
        edges.tells(x, 1, 66, "at", 0, 2);
        edges.tells(x, 1, (1 + Scene.TOLD + 66) / 3, "mean", 0);
        edges.tells(x, 1, 4, "day", 2, 0);
        edges.tells(x, 6, 0, "step");
        edges.tells(x, 5, 1, "mill", 1);
        edges.tells(x, 2, 1, "turns");
        edges.tells(x, 4, 5, "best", 1);
        edges.tells(x, 1, 1, "rakes", 1, 6);
        edges.tells(x, 0, 0, "rakes", 1, 5);
        // HATS by 4: as DAY 1 is FISHED, 1 on the GRATING less by DAY 0: 5 1 against 5 0.
        edges.tells(x, 0, 6, "fishes", 2);
        edges.tells(x, 3, 2, "look", 0);
        edges.is(x, 2, "asked");
        edges.is(x, 2, "asked");
    }

    /** 37: "that was not refused (nor answered NONE)". */
    private static void askedAsItWasByNone() {
        LeatDays x = Due.leat("d90d90");
        x.day(0, 1);
        edges.tells(x, LeatDays.NONE, 9, "turns");
        edges.tells(x, LeatDays.NONE, 9, "rakes", 1, 400);
        edges.tells(x, LeatDays.NONE, 9, "fishes", 20);
        edges.is(x, 0, "finding");
    }

    /** 38, 39: "that was told last": by odds(), mid() alone. */
    private static void partsByNoOthers() {
        long upper = Scene.LIVED.make().upper();
        long lower = Scene.LIVED.make().lower();
        each(UNTOLD + ";" + TOLD, (x, name, a) -> {
            edges.answers(x, name, a);
            edges.is(x, upper, "upper");
            edges.is(x, lower, "lower");
            edges.is(x, NOUGHT, "finding");
        });
    }

    private static void partsByEach() {
        LeatDays x = Due.leat("d10d20");
        edges.parts(x, 33, 2, "mid", 1);
        edges.parts(x, 1, 64, "odds", 18, 6);
        edges.parts(x, 0, 1, "odds", 400, 0);
        edges.parts(x, 18, 1, "mid", 0);
        edges.is(x, 18, "upper");
        edges.is(x, 1, "lower");
    }

    /** 40: without DAYS: the HATCH, too, is 0; ROWS and TEXTS count, those of none, too. */
    private static void countWithoutDays() {
        edges.counts(Scene.NEW.make(), 0, 0, 0, 0, 0, 0, 0, 0, 0, 0, 0, 0, 0);
        edges.counts(Scene.BARE.make(), 0, 0, 0, 0, 0, 0, 0, 0, 5, 3, 0, 0, 0);
    }

    /** 40: as much as there can be: 9 DAYS, the last at the WHEEL, 40 DEEDS, 40 on the GRATING, all FISHED. */
    private static void countOfAll() {
        LeatDays x = Due.leat("e99f99e99f99e99f99e99f99e99");
        x.hatch(4);
        for (int i = 0; i < 17; i++) {
            x.step();
        }
        for (int k = 0; k < 9; k++) {
            x.fish(k);
        }
        for (int i = 0; i < 9; i++) {
            x.step();
        }
        for (int i = 0; i < 4; i++) {
            x.hatch(i % 2 == 0 ? 3 : 4);
        }
        for (int r = 0; r < 6; r++) {
            x.row(r, 0);
        }
        for (int t = 0; t < 4; t++) {
            x.text(t, 0);
        }
        for (int k = 0; k < 3; k++) {
            x.keep(k);
        }
        // 72 less 4 for each STEP ahead, 10 times, then 16 times 32; 5 more for each of 14 RED ones.
        edges.counts(x, 9, 8, 40, 4, 40, 540 + 16 * 32 + 14 * 5, 0, 511, 6, 4, 3, 9, 0);
        LeatDays y = Due.leat("p00h00p00h00p00h00p00h00p00");
        y.step();
        edges.counts(y, 9, 8, 1, 2, 3, 0, 1, 0, 0, 1, 0, 0, 9);
        edges.counts(Due.leat("d00r00d00r00d00r00d00r00d00"), 9, 0, 0, 2, 0, 0, 0, 0, 0, 1, 0, 0, 0);
    }

    /** 40: what is torn, undone, gone with a new LEAT is counted no more. */
    private static void countGoesDown() {
        LeatDays x = Scene.LIVED.make();
        x.tear(1);
        edges.is(x, 4, "count", 8);
        x.undo(1);
        edges.is(x, 0, "count", 7);
        edges.is(x, 6, "count", 5);
        edges.is(x, 2, "count", 10);
        x.leat(0);
        edges.is(x, 0, "count", 10);
        edges.is(x, 0, "count", 5);
        x.text(0, 0);
        edges.is(x, 3, "count", 9);
    }

    /** 41, 42: each of the five, once, twice; the latest is told. */
    private static void findingsOfEach() {
        LeatDays x = Due.leat("d11f11");
        x.row(0, 0);
        for (int times = 1; times <= 2; times++) {
            edges.is(x, LeatDays.FINDING, "at", 1, 0);
            edges.is(x, NOTHING, "finding");
            edges.is(x, LeatDays.FINDING, "at", 0, 0);
            edges.is(x, BEYOND, "finding");
            edges.is(x, LeatDays.FINDING, "mark", 0, 1);
            edges.is(x, UNLIKE, "finding");
            edges.is(x, LeatDays.FINDING, "mean", 0);
            edges.is(x, NOUGHT, "finding");
            edges.is(x, LeatDays.FINDING, "where", 0);
            edges.is(x, SIZE, "finding");
            for (int f = 1; f <= 5; f++) {
                edges.is(x, times, "findings", f);
            }
        }
        x.leat(0);
        edges.is(x, SIZE, "finding");
        edges.is(x, 2, "findings", SIZE);
    }

    /** 41: BAD, STATE, FULL, NONE are no FINDINGS. */
    private static void findingByNoOthers() {
        LeatDays x = Scene.FULL.make();
        edges.is(x, LeatDays.BAD, "row", 6, 0);
        edges.is(x, LeatDays.STATE, "fish", 1);
        edges.is(x, LeatDays.FULL, "step");
        edges.is(x, LeatDays.NONE, "rakes", 1, 400);
        edges.is(x, NOUGHT, "finding");
        int[] want = {0, 1, 0, 0, 1, 0};
        for (int f = 1; f <= 5; f++) {
            edges.is(x, want[f], "findings", f);
        }
    }

    private static long digestOf(List<Integer> values) {
        long h = 17;
        for (int v : values) {
            h = 31 * h + v;
        }
        return h;
    }

    /** 43: 13 times 0 by count(), 3 LEATS, 6 ROWS, 4 TEXTS that are missing; of none of 0 it is another. */
    private static void digestOfNone() {
        List<Integer> values = new ArrayList<>();
        for (int i = 0; i < 26; i++) {
            values.add(i < 13 ? 0 : -1);
        }
        edges.is(new LeatDays(), digestOf(values), "digest");
        LeatDays x = new LeatDays();
        x.row(5, 0);
        values.set(8, 1);
        values.set(21, 0);
        edges.is(x, digestOf(values), "digest");
        x.text(0, 0);
        values.set(9, 1);
        values.set(22, 0);
        edges.is(x, digestOf(values), "digest");
        x.tear(5);
        values.set(8, 0);
        values.set(21, -1);
        edges.is(x, digestOf(values), "digest");
    }

    /** 43: 9 DAYS, 6 ROWS of 40, the least and the greatest among them, 4 TEXTS of 60, all bytes among them. */
    private static void digestOfAll() {
        String leat = "d09f18r27p36e45h54d63f72r81";
        LeatDays x = Due.leat(leat);
        List<Integer> values = new ArrayList<>();
        for (int v : new int[] {9, 0, 0, 2, 0, 0, 0, 0, 6, 4, 0, 3, 2}) {
            values.add(v);
        }
        // KIND, FLOW, DRIFT, what it would GRIND and LEAVE, FISHED.
        int[][] days = {{0, 0, 9, 0, 9, 0}, {1, 1, 8, 4, 4, 0}, {2, 2, 7, 2, 7, 0}, {3, 3, 6, 6, 9, 0}, {4, 4, 5, 16, 2, 0},
            {5, 5, 4, 6, 14, 0}, {0, 6, 3, 12, 3, 0}, {1, 7, 2, 28, 1, 0}, {2, 8, 1, 8, 1, 0}};
        for (int[] day : days) {
            for (int v : day) {
                values.add(v);
            }
        }
        for (int k = 0; k < 3; k++) {
            values.add(-1);
        }
        fillRows(x, values);
        fillTexts(x, values);
        edges.is(x, digestOf(values), "digest");
    }

    private static void fillRows(LeatDays x, List<Integer> values) {
        for (int r = 0; r < 6; r++) {
            x.row(r, 40);
        }
        for (int i = 0; i < 40; i++) {
            x.lay(0, i, i % 2 == 0 ? Edges.MAX - i : Edges.MIN + i);
        }
        for (int r = 1; r < 6; r++) {
            x.copy(0, 0, r, r, 40 - r);
        }
        for (int r = 0; r < 6; r++) {
            values.add(40);
            for (int i = 0; i < 40; i++) {
                int from = i - r;
                values.add(from < 0 ? 0 : from % 2 == 0 ? Edges.MAX - from : Edges.MIN + from);
            }
        }
    }

    private static void fillTexts(LeatDays x, List<Integer> values) {
        for (int t = 0; t < 4; t++) {
            x.text(t, 60);
            values.add(60);
            for (int i = 0; i < 60; i++) {
                int v = 64 * t + i;
                x.put(t, i, v);
                values.add((int) (byte) v);
            }
        }
    }

    /** 43: "of each kept LEAT how many DEEDS (-1: missing)": 0 and 40 among them. */
    private static void digestOfKept() {
        LeatDays x = Due.leat("d00d00");
        x.keep(2);
        for (int i = 0; i < 40; i++) {
            x.hatch(i % 2 == 0 ? 1 : 2);
        }
        x.keep(0);
        List<Integer> values = new ArrayList<>();
        for (int v : new int[] {2, 0, 40, 2, 0, 0, 0, 0, 0, 1, 2, 0, 0}) {
            values.add(v);
        }
        for (int i = 0; i < 12; i++) {
            values.add(0);
        }
        for (int v : new int[] {40, -1, 0, -1, -1, -1, -1, -1, -1, 6, 'd', '0', '0', 'd', '0', '0', -1, -1, -1}) {
            values.add(v);
        }
        edges.is(x, digestOf(values), "digest");
    }

    /** 43: it changes nothing that is told. */
    private static void digestTellsNothing() {
        LeatDays x = Scene.FULL.make();
        long first = x.digest();
        edges.is(x, first, "digest");
        edges.is(x, Scene.TOLD, "asked");
        edges.is(x, NOUGHT, "finding");
        edges.is(x, 1, "findings", NOTHING);
    }

    /** "An object is used for at most 512 calls": the 512th is answered as the first. */
    private static void fiveHundredAndTwelve() {
        LeatDays x = new LeatDays();
        for (int i = 0; i < 511; i++) {
            x.tear(i % 6);
        }
        edges.is(x, 511, "findings", NOTHING);
        LeatDays y = Due.leat("d11d11");
        // 8 calls so far; three in each turn, then three.
        for (int i = 0; i < 167; i++) {
            y.hatch(3);
            y.step();
            y.undo(0);
        }
        y.step();
        y.step();
        edges.is(y, 3, "count", 5);
    }
}
