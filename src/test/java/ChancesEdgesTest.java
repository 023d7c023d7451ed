/** Boundary cases of promises 34 to 36: chances of 0 to 12 of 12, 400 to be ground, lots of 1 to 20 deeds. */
public final class ChancesEdgesTest {
    private static final int MOST_SEED = 2147483646;
    private static final int FULL = LeatDays.FULL;
    private static final Edges edges = new Edges();

    public static void main(String[] args) {
        numbers();
        withoutDays();
        oddsOfCertain();
        oddsToTheLastGrain();
        oddsFourHundred();
        lowestTerms();
        midOfNoneAndAll();
        dryDaysLeaveNothing();
        dryDaysTurnOnce();
        clogged();
        aside();
        lotsFull();
        lotsBadAheadOfFull();
        lotsSeeds();
        lotsOfEachSort();
        lotsOfEachHatch();
        lotsAreDeeds();
        lotsOfOneAndTwenty();
        edges.end();
    }

    /** 34: v 0 .. 400, p 0 .. 12; 35: p 0 .. 12; 36: n 1 .. 20, a seed 1 .. 2147483646; BAD comes ahead of STATE. */
    private static void numbers() {
        for (Scene scene : Scene.values()) {
            edges.bounds(scene, 0, 0, 400, "odds", 0, 12);
            edges.bounds(scene, 1, 0, 12, "odds", 400, 0);
            edges.bad(scene, "odds", 401, 13);
            edges.bounds(scene, 0, 0, 12, "mid", 0);
            edges.bounds(scene, 0, 1, 20, "lots", 1, 1);
            edges.bounds(scene, 1, 1, MOST_SEED, "lots", 20, 1);
            edges.bad(scene, "lots", 0, 0);
        }
    }

    /** 34 to 36: "STATE: no DAYS". */
    private static void withoutDays() {
        for (Scene scene : new Scene[] {Scene.NEW, Scene.BARE}) {
            edges.state(scene, "odds", 0, 0);
            edges.state(scene, "odds", 400, 12);
            edges.state(scene, "mid", 0);
            edges.state(scene, "mid", 12);
            edges.state(scene, "lots", 1, 1);
            edges.state(scene, "lots", 20, MOST_SEED);
        }
    }

    /** 34: by 0 of 12 no DAY is dry, by 12 each is; 0 or more is always GROUND. */
    private static void oddsOfCertain() {
        LeatDays x = Due.leat("d10d20");
        for (int p = 0; p <= 12; p++) {
            edges.parts(x, 1, 1, "odds", 0, p);
            edges.parts(x, 0, 1, "odds", 19, p);
        }
        edges.parts(x, 1, 1, "odds", 18, 0);
        edges.parts(x, 0, 1, "odds", 1, 12);
        edges.parts(x, 0, 1, "odds", 400, 12);
    }

    /** 34: "v or more", GROUND 2 4 2 4 2 4: all of it, all but one 2, anything. */
    private static void oddsToTheLastGrain() {
        LeatDays x = Due.leat("d10d20");
        edges.parts(x, 1, 64, "odds", 18, 6);
        edges.parts(x, 1, 64, "odds", 17, 6);
        edges.parts(x, 1, 16, "odds", 16, 6);
        edges.parts(x, 63, 64, "odds", 1, 6);
        edges.parts(x, 63, 64, "odds", 2, 6);
        edges.parts(x, 15, 16, "odds", 3, 6);
        edges.parts(x, 1, 2985984, "odds", 18, 11);
        edges.parts(x, 1771561, 2985984, "odds", 18, 1);
        edges.parts(x, 1214423, 2985984, "odds", 1, 11);
    }

    /** 34: 400 can be reached, and just so: FLOODS of 50 in 6 DAYS, by 4. */
    private static void oddsFourHundred() {
        LeatDays x = Due.leat("f90f80f80f80f80f90");
        x.hatch(4);
        edges.parts(x, 1, 1, "odds", 400, 0);
        edges.parts(x, 1771561, 2985984, "odds", 400, 1);
        LeatDays y = Due.leat("f90f80f80f80f80f80");
        y.hatch(4);
        edges.parts(y, 0, 1, "odds", 400, 0);
        edges.parts(y, 0, 1, "odds", 393, 0);
        edges.parts(y, 1, 1, "odds", 392, 0);
    }

    /** "in lowest terms, the lower number above 0 (0 by 1)". */
    private static void lowestTerms() {
        LeatDays x = Due.leat("d10d20");
        // (12 - p) to the 6th by 12 to the 6th.
        long[][] want = {{1, 1}, {1771561, 2985984}, {15625, 46656}, {729, 4096}, {64, 729}, {117649, 2985984}, {1, 64},
            {15625, 2985984}, {1, 729}, {1, 4096}, {1, 46656}, {1, 2985984}, {0, 1}};
        for (int p = 0; p <= 12; p++) {
            edges.parts(x, want[p][0], want[p][1], "odds", 18, p);
        }
        // 18 times (12 - p) by 12.
        long[][] means = {{18, 1}, {33, 2}, {15, 1}, {27, 2}, {12, 1}, {21, 2}, {9, 1}, {15, 2}, {6, 1}, {9, 2}, {3, 1},
            {3, 2}, {0, 1}};
        for (int p = 0; p <= 12; p++) {
            edges.parts(x, means[p][0], means[p][1], "mid", p);
        }
    }

    /** 35: the most that there can be, and nothing. */
    private static void midOfNoneAndAll() {
        LeatDays x = Due.leat("e90e90");
        x.hatch(4);
        edges.parts(x, 462, 1, "mid", 0);
        edges.parts(x, 231, 1, "mid", 6);
        edges.parts(x, 77, 2, "mid", 11);
        edges.parts(x, 0, 1, "mid", 12);
        LeatDays none = Due.leat("d09d09");
        for (int p = 0; p <= 12; p++) {
            edges.parts(none, 0, 1, "mid", p);
        }
    }

    /** 34, 35: "(and LEAVES nothing)": 18 less 1 for each STEP ahead that was not dry: 108 q less 15 q q. */
    private static void dryDaysLeaveNothing() {
        LeatDays x = Due.leat("d91d91");
        edges.parts(x, 93, 1, "mid", 0);
        edges.parts(x, 201, 4, "mid", 6);
        edges.parts(x, 427, 48, "mid", 11);
        // 18 in all by one STEP alone, whichever: 1 less all dry.
        edges.parts(x, 63, 64, "odds", 18, 6);
        edges.parts(x, 57, 64, "odds", 35, 6);
        edges.parts(x, 57, 64, "odds", 19, 6);
        edges.parts(x, 1, 64, "odds", 93, 6);
    }

    /** 34, 35: "the WHEEL TURNS", once, also at a DAY that GRINDS nothing by itself, and at none else. */
    private static void dryDaysTurnOnce() {
        LeatDays x = Due.leat("d00d90d30");
        // 0 6 18 0 18 6.
        edges.parts(x, 48, 1, "mid", 0);
        long hits = 0;
        long sum = 0;
        for (int dry = 0; dry < 64; dry++) {
            int at = 0;
            int way = 1;
            int ground = 0;
            for (int i = 0; i < 6; i++) {
                int flour = (dry >> i & 1) == 1 ? 0 : new int[] {0, 18, 6}[at];
                way = flour == 0 ? -way : way;
                ground += flour;
                at = (at + way + 3) % 3;
            }
            hits += ground >= 24 ? 1 : 0;
            sum += ground;
        }
        edges.parts(x, reduced(hits, 64), reduced(64, hits), "odds", 24, 6);
        edges.parts(x, reduced(sum, 64), reduced(64, sum), "mid", 6);
    }

    private static long reduced(long part, long by) {
        long a = part;
        long b = by;
        while (b != 0) {
            long rest = a % b;
            a = b;
            b = rest;
        }
        return part / a;
    }

    /** The GRATING holds 40 here, too: 72 less 40 each time. */
    private static void clogged() {
        LeatDays x = Due.leat("f98h99");
        for (int i = 0; i < 9; i++) {
            x.step();
        }
        x.hatch(4);
        edges.is(x, 40, "count", 4);
        edges.is(x, 1, "count", 1);
        edges.parts(x, 96, 1, "mid", 0);
        edges.parts(x, 1, 1, "odds", 96, 0);
        edges.parts(x, 0, 1, "odds", 97, 0);
    }

    /** 34, 35: nothing else is done, behind 40 DEEDS, too. */
    private static void aside() {
        LeatDays x = Scene.FULL.make();
        edges.refusedOn(x, 1, "odds", 400, 12);
        edges.refusedOn(x, 1, "mid", 12);
        edges.is(x, Scene.TOLD, "asked");
    }

    /** 36: "FULL: with n more there would be more than 40 DEEDS". */
    private static void lotsFull() {
        for (int n = 1; n <= 20; n++) {
            edges.full(Scene.FULL, "lots", n, 1);
        }
        int[][] ends = {{20, 20}, {21, 19}, {35, 5}, {39, 1}};
        for (int[] end : ends) {
            LeatDays x = Due.leat("d11d20");
            for (int i = 0; i < end[0]; i++) {
                x.step();
            }
            if (end[1] < 20) {
                edges.refusedOn(x, FULL, "lots", end[1] + 1, 3);
            }
            edges.is(x, end[0], "count", 2);
            x.lots(end[1], 3);
            edges.is(x, 40, "count", 2);
            edges.refusedOn(x, FULL, "lots", 1, 3);
            edges.is(x, end[1], "undo", end[0]);
        }
    }

    private static void lotsBadAheadOfFull() {
        edges.bad(Scene.FULL, "lots", 0, 1);
        edges.bad(Scene.FULL, "lots", 21, 1);
        edges.bad(Scene.FULL, "lots", 1, 0);
        edges.bad(Scene.FULL, "lots", 20, 2147483647);
        edges.bad(Scene.LIVED, "lots", 36, 1);
    }

    /** 36: the least seed gives 48271, 182605794; the greatest 2147435376, 1964877853. */
    private static void lotsSeeds() {
        LeatDays x = Due.leat("d91d91");
        edges.is(x, 0, "lots", 2, 1);
        edges.counts(x, 2, 0, 2, 3, 0, 0);
        LeatDays y = Due.leat("d91d91");
        edges.is(y, 0, "lots", 1, MOST_SEED);
        edges.counts(y, 2, 0, 1, 2, 0, 0);
        edges.is(y, 1, "undo", 0);
        edges.is(y, 0, "lots", 2, MOST_SEED);
        edges.counts(y, 2, 0, 2, 1, 0, 0);
    }

    /** 36: modulo 6: 0 RAKES, 1 sets the HATCH, 2 to 5 are STEPS; a seed below 44488 gives 48271 times it. */
    private static void lotsOfEachSort() {
        for (int seed = 2; seed <= 5; seed++) {
            LeatDays x = Due.leat("d91d91");
            edges.is(x, 18, "lots", 1, seed);
            edges.counts(x, 2, 1, 1, 2, 1, 18);
            edges.is(x, 0, "asked");
        }
        LeatDays x = Due.leat("d91d91");
        x.step();
        x.day(0, 1);
        edges.is(x, 18, "lots", 1, 6);
        edges.counts(x, 2, 1, 2, 2, 0, 18);
        // "also a clear one".
        edges.is(x, 18, "lots", 1, 6);
        edges.counts(x, 2, 1, 3, 2, 0, 18);
        // "also as it is": 337897 by 8 is 42237, modulo 5 is 2.
        edges.is(x, 18, "lots", 1, 7);
        edges.counts(x, 2, 1, 4, 2, 0, 18);
        edges.is(x, 9, "asked");
    }

    /** 36: "open by it by 8, cut, modulo 5": 0 to 4. */
    private static void lotsOfEachHatch() {
        int[] seeds = {13, 25, 7, 1, 49};
        for (int h = 0; h <= 4; h++) {
            LeatDays x = Due.leat("d10d10");
            edges.is(x, 0, "lots", 1, seeds[h]);
            edges.is(x, h, "count", 3);
            edges.is(x, 1, "count", 2);
        }
    }

    /** 36: "DEEDS truly": each is undone by itself; also the HATCH as it was, a clear GRATING. */
    private static void lotsAreDeeds() {
        LeatDays x = Due.leat("d91d91");
        x.lots(1, 6);
        x.lots(1, 7);
        x.lots(1, 2);
        edges.is(x, 1, "undo", 2);
        edges.counts(x, 2, 0, 2, 2, 0, 0);
        edges.is(x, 1, "undo", 1);
        edges.is(x, 1, "undo", 0);
        edges.counts(x, 2, 0, 0, 2, 0, 0);
        x.lots(20, 77);
        x.keep(0);
        long before = x.digest();
        LeatDays y = Due.leat("d91d91");
        y.lots(20, 77);
        for (int n = 19; n >= 0; n--) {
            edges.is(x, 1, "undo", n);
        }
        edges.is(x, 20, "on", 0);
        edges.is(x, before, "digest");
        edges.is(x, y.count(5), "count", 5);
    }

    /** 36: 1, and 20: each from the one ahead, not from the seed; "what is GROUND in all so far". */
    private static void lotsOfOneAndTwenty() {
        LeatDays x = Due.leat("d91d90");
        LeatDays y = Due.leat("d91d90");
        x.step();
        y.step();
        long lot = 31;
        int last = 0;
        for (int i = 0; i < 20; i++) {
            // One LOT each, by a seed that is the number ahead.
            last = y.lots(1, (int) lot);
            lot = lot * 48271 % 2147483647;
        }
        edges.is(x, last, "lots", 20, 31);
        edges.is(x, last, "count", 5);
        edges.is(x, y.digest(), "digest");
        edges.is(x, 21, "count", 2);
    }
}
