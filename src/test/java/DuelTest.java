/** Promise 33: by turns of a miller and one who throws hats. */
public final class DuelTest {
    private static final Due due = new Due();

    public static void main(String[] args) {
        refused();
        noDrift();
        raking();
        wide();
        nothingElseDone();
        due.end();
    }

    private static void refused() {
        LeatDays x = new LeatDays();
        due.is("duel(0) without DAYS", x.duel(0), LeatDays.STATE);
        due.is("duel(-1) without DAYS", x.duel(-1), LeatDays.BAD);
        due.is("duel(7) without DAYS", x.duel(7), LeatDays.BAD);
        x = Due.leat("d30d30");
        due.is("duel(-1)", x.duel(-1), LeatDays.BAD);
        due.is("duel(7)", x.duel(7), LeatDays.BAD);
    }

    /** Nothing drifts: 8 times FLOW by HATCH, less what is thrown. */
    private static void noDrift() {
        LeatDays x = Due.leat("d50d50");
        due.is("duel(0)", x.duel(0), 80);
        due.is("opened: duel(1)", x.duel(1), 120);
        due.is("opened, thrown: duel(2)", x.duel(2), 80);
        // Opened twice with 5 thrown between, or opened, thrown, RAKED: 15 each.
        due.is("duel(3)", x.duel(3), 120);
        due.is("duel(4)", x.duel(4), 80);
        // Opened twice, RAKED at last: 20 each.
        due.is("duel(5)", x.duel(5), 160);
        due.is("duel(6)", x.duel(6), 120);
        LeatDays y = Due.leat("d90d90");
        // 27, 22, 31, 26, 36, 31, each 8 times.
        due.is("duel(1)", y.duel(1), 216);
        due.is("duel(2)", y.duel(2), 176);
        due.is("duel(3)", y.duel(3), 248);
        due.is("duel(4)", y.duel(4), 208);
        due.is("duel(5)", y.duel(5), 288);
        due.is("duel(6)", y.duel(6), 248);
    }

    private static void raking() {
        LeatDays x = Due.leat("p99d90");
        x.step();
        x.hatch(4);
        // CLOGGED by 12: 24 24 12 12 0 ... against a clear one.
        int as = x.duel(0);
        x.rake();
        due.is("it is better RAKED", x.duel(0) > as ? 1 : 0, 1);
        int raked = x.duel(0);
        x.undo(2);
        due.is("duel(1) RAKES", x.duel(1), raked);
    }

    /** A HATCH open by 4 is not opened more. */
    private static void wide() {
        LeatDays x = Due.leat("d50d50");
        x.hatch(4);
        due.is("wide: duel(0)", x.duel(0), 160);
        due.is("wide: duel(1)", x.duel(1), 160);
        due.is("wide: duel(2)", x.duel(2), 120);
        due.is("wide: duel(3)", x.duel(3), 160);
        LeatDays h = Due.leat("h99h99");
        h.step();
        h.step();
        due.is("count(4)", h.count(4), 40);
        // 40 at most, however much is thrown.
        due.is("clogged: duel(0)", h.duel(0), 0);
        due.is("clogged: duel(2)", h.duel(2), 4);
    }

    private static void nothingElseDone() {
        LeatDays x = Due.leat("h35d02f21e35");
        x.step();
        long before = x.digest();
        x.duel(6);
        due.is("digest() as it was", x.digest(), before);
        due.is("asked() is not told", x.asked(), 1);
    }
}
