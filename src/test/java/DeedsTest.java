/** Promises 15 to 21: steps, the hatch, raking, fishing, undone, kept, gone on from. */
public final class DeedsTest {
    private static final int NOTHING = 1;
    private static final Due due = new Due();

    public static void main(String[] args) {
        step();
        wheelTurns();
        gratingHoldsForty();
        stepRefused();
        hatch();
        rake();
        fish();
        fullBehindState();
        undo();
        undoByParts();
        keepAndOn();
        onBehindOtherDeeds();
        keepRefused();
        due.end();
    }

    private static void step() {
        LeatDays x = Due.leat("d32f41p20");
        due.tells("step()", x, x.step(), 6, 1);
        due.is("count(4)", x.count(4), 2);
        due.tells("step()", x, x.step(), 14, 2);
        due.is("count(4)", x.count(4), 2);
        due.tells("step()", x, x.step(), 2, 0);
        due.is("count(4)", x.count(4), 5);
        due.tells("step()", x, x.step(), 1, 1);
        due.is("count(5)", x.count(5), 23);
        due.is("count(2)", x.count(2), 4);
        due.is("count(1)", x.count(1), 1);
        due.is("count(6)", x.count(6), 0);
    }

    private static void wheelTurns() {
        LeatDays x = Due.leat("d10d02d30");
        due.tells("step()", x, x.step(), 2, 1);
        due.tells("step() that turns back", x, x.step(), 0, 0);
        due.is("count(6)", x.count(6), 1);
        due.is("count(4)", x.count(4), 2);
        due.tells("step() that turns on again", x, x.step(), 0, 1);
        due.is("count(6)", x.count(6), 0);
        x.rake();
        due.tells("step()", x, x.step(), 0, 0);
        x.rake();
        due.tells("step() back over the first", x, x.step(), 2, 2);
        due.tells("step()", x, x.step(), 6, 1);
        due.is("count(5)", x.count(5), 10);
    }

    private static void gratingHoldsForty() {
        LeatDays x = Due.leat("h99h99");
        due.tells("step()", x, x.step(), 9, 1);
        due.is("count(4)", x.count(4), 24);
        due.tells("step()", x, x.step(), 0, 0);
        due.is("count(4)", x.count(4), 40);
        x.step();
        due.is("count(4)", x.count(4), 40);
        due.tells("day(0, 4)", x, x.day(0, 4), 1, 24);
    }

    private static void stepRefused() {
        LeatDays x = new LeatDays();
        due.is("step() without DAYS", x.step(), LeatDays.STATE);
        x = Due.leat("d10d10");
        for (int i = 0; i < 40; i++) {
            due.is("step() " + i, x.step(), 2);
        }
        x.day(0, 1);
        due.is("step() 40", x.step(), LeatDays.FULL);
        due.is("asked()", x.asked(), 1);
        due.is("count(2)", x.count(2), 40);
        due.is("count(5)", x.count(5), 80);
    }

    private static void hatch() {
        LeatDays x = new LeatDays();
        due.is("hatch(1) without DAYS", x.hatch(1), LeatDays.STATE);
        due.is("hatch(0) without DAYS", x.hatch(0), LeatDays.STATE);
        due.is("hatch(5) without DAYS", x.hatch(5), LeatDays.BAD);
        x = Due.leat("d10d10");
        due.is("hatch(2)", x.hatch(2), LeatDays.STATE);
        due.is("hatch(4)", x.hatch(4), 2);
        due.is("hatch(0)", x.hatch(0), 4);
        due.is("hatch(0)", x.hatch(0), LeatDays.STATE);
        due.is("hatch(-1)", x.hatch(-1), LeatDays.BAD);
        due.is("hatch(5)", x.hatch(5), LeatDays.BAD);
        due.is("count(3)", x.count(3), 0);
        due.is("count(2)", x.count(2), 2);
        due.is("asked()", x.asked(), 0);
        due.is("step()", x.step(), 0);
    }

    private static void rake() {
        LeatDays x = new LeatDays();
        due.is("rake() without DAYS", x.rake(), LeatDays.STATE);
        x = Due.leat("d17d10");
        due.is("rake() of a clear one", x.rake(), LeatDays.STATE);
        x.step();
        due.is("rake()", x.rake(), 7);
        due.is("count(4)", x.count(4), 0);
        due.is("count(2)", x.count(2), 2);
        due.is("rake() again", x.rake(), LeatDays.STATE);
        due.is("count(2)", x.count(2), 2);
    }

    private static void fish() {
        LeatDays x = new LeatDays();
        due.is("fish(0) without DAYS", x.fish(0), LeatDays.BAD);
        x = Due.leat("d17h10d05");
        due.is("fish(0)", x.fish(0), 7);
        due.is("fish(1)", x.fish(1), 0);
        due.is("fish(1) again", x.fish(1), LeatDays.STATE);
        due.is("fish(0) again", x.fish(0), LeatDays.STATE);
        due.is("fish(3)", x.fish(3), LeatDays.BAD);
        due.is("fish(-1)", x.fish(-1), LeatDays.BAD);
        due.is("count(7)", x.count(7), 3);
        due.is("count(2)", x.count(2), 2);
        x.step();
        due.is("count(4)", x.count(4), 0);
    }

    private static void fullBehindState() {
        LeatDays x = Due.leat("d91d91");
        x.fish(0);
        x.lots(20, 1);
        x.lots(19, 1);
        due.is("count(2)", x.count(2), 40);
        int open = x.count(3);
        due.is("hatch as it is", x.hatch(open), LeatDays.STATE);
        due.is("hatch as it is not", x.hatch((open + 1) % 5), LeatDays.FULL);
        due.is("hatch(5)", x.hatch(5), LeatDays.BAD);
        due.is("fish(0)", x.fish(0), LeatDays.STATE);
        due.is("fish(1)", x.fish(1), LeatDays.FULL);
        due.is("fish(2)", x.fish(2), LeatDays.BAD);
        due.is("rake()", x.rake(), x.count(4) == 0 ? LeatDays.STATE : LeatDays.FULL);
        due.is("count(2)", x.count(2), 40);
        rakeWhenFull();
    }

    private static void rakeWhenFull() {
        LeatDays clear = Due.leat("d90d90");
        LeatDays clogged = Due.leat("d91d91");
        for (int i = 0; i < 40; i++) {
            clear.step();
            clogged.step();
        }
        due.is("full: rake() of a clear one", clear.rake(), LeatDays.STATE);
        due.is("full: rake()", clogged.rake(), LeatDays.FULL);
        due.is("full: keep(0)", clogged.keep(0), 40);
        due.is("full: undo(40)", clogged.undo(40), 0);
        due.is("full: undo(7)", clogged.undo(7), 33);
        due.is("full: on(0)", clogged.on(0), 40);
        due.is("full: step()", clogged.step(), LeatDays.FULL);
    }

    private static void undo() {
        LeatDays x = new LeatDays();
        due.is("undo(0) without DAYS", x.undo(0), 0);
        due.is("undo(1) without DAYS", x.undo(1), LeatDays.BAD);
        due.is("undo(-1) without DAYS", x.undo(-1), LeatDays.BAD);
        x = Due.leat("d17h19d05");
        long[] digests = new long[8];
        digests[0] = x.digest();
        x.step();
        digests[1] = x.digest();
        x.fish(1);
        digests[2] = x.digest();
        x.hatch(3);
        digests[3] = x.digest();
        x.rake();
        digests[4] = x.digest();
        x.step();
        digests[5] = x.digest();
        x.step();
        digests[6] = x.digest();
        due.is("undo(7)", x.undo(7), LeatDays.BAD);
        due.is("undo(-1)", x.undo(-1), LeatDays.BAD);
        due.is("undo(6)", x.undo(6), 0);
        due.is("digest()", x.digest(), digests[6]);
        for (int n = 5; n >= 0; n--) {
            due.is("undo(" + n + ")", x.undo(n), 1);
            due.is("digest() behind undo(" + n + ")", x.digest(), digests[n]);
        }
        due.is("undo(0)", x.undo(0), 0);
    }

    private static void undoByParts() {
        LeatDays x = Due.leat("d17h19d05");
        long first = x.digest();
        x.lots(20, 77);
        long some = x.digest();
        x.lots(10, 5);
        x.day(0, 1);
        due.is("undo(20)", x.undo(20), 10);
        due.is("digest()", x.digest(), some);
        due.is("undo(0)", x.undo(0), 20);
        due.is("digest()", x.digest(), first);
        due.is("asked() stays", x.asked(), 1);
    }

    private static void keepAndOn() {
        LeatDays x = Due.leat("d17h19d05");
        x.step();
        x.fish(1);
        due.is("keep(1)", x.keep(1), 2);
        long early = x.digest();
        x.hatch(4);
        x.step();
        due.is("keep(0)", x.keep(0), 4);
        due.is("count(10)", x.count(10), 2);
        due.is("on(1)", x.on(1), 2);
        due.is("count(10) stays", x.count(10), 2);
        due.is("count(3)", x.count(3), 2);
        due.is("undo(1) of what was kept", x.undo(1), 1);
        due.is("count(7)", x.count(7), 0);
        due.is("keep(2) anew", x.keep(2), 1);
        due.is("on(0)", x.on(0), 4);
        due.is("count(3)", x.count(3), 4);
        due.is("count(7)", x.count(7), 2);
        due.is("on(1) again", x.on(1), 2);
        due.is("keep(0) over it", x.keep(0), 2);
        due.is("on(0)", x.on(0), 2);
        LeatDays y = Due.leat("d17h19d05");
        y.step();
        y.fish(1);
        y.keep(1);
        due.is("digest() is by what was done", y.digest(), early);
    }

    private static void onBehindOtherDeeds() {
        LeatDays x = Due.leat("d17h19d05");
        x.fish(1);
        x.hatch(3);
        x.step();
        x.keep(2);
        long before = x.digest();
        x.undo(0);
        x.hatch(1);
        x.step();
        x.fish(0);
        x.step();
        due.is("on(2)", x.on(2), 3);
        due.is("digest() as it was kept", x.digest(), before);
        x.undo(1);
        due.is("undone by what was kept: count(7)", x.count(7), 2);
        due.is("undone by what was kept: count(3)", x.count(3), 2);
        x.step();
        x.rake();
        due.is("on(2), kept as it was", x.on(2), 3);
        due.is("digest() as it was kept", x.digest(), before);
    }

    private static void keepRefused() {
        LeatDays x = new LeatDays();
        due.is("keep(0) without DAYS", x.keep(0), LeatDays.STATE);
        due.is("keep(3) without DAYS", x.keep(3), LeatDays.BAD);
        due.is("keep(-1) without DAYS", x.keep(-1), LeatDays.BAD);
        due.finds("on(0)", x, x.on(0), NOTHING);
        due.is("on(3)", x.on(3), LeatDays.BAD);
        due.is("on(-1)", x.on(-1), LeatDays.BAD);
        x = Due.leat("d10d10");
        x.step();
        x.keep(0);
        due.finds("on(1)", x, x.on(1), NOTHING);
        due.is("count(2)", x.count(2), 1);
        due.is("keep(0) of none", keepOfNone(), 0);
    }

    private static int keepOfNone() {
        LeatDays x = Due.leat("d10d10");
        int answer = x.keep(0);
        due.is("count(10) of none", x.count(10), 1);
        x.step();
        due.is("on(0) of none", x.on(0), 0);
        due.is("count(2)", x.count(2), 0);
        return answer;
    }
}
