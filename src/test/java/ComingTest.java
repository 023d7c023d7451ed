/** Promises 22 to 24: what will be ground, when the wheel turns, the book. */
public final class ComingTest {
    private static final int BEYOND = 2;
    private static final Due due = new Due();

    public static void main(String[] args) {
        mill();
        turns();
        book();
        nothingElseDone();
        due.end();
    }

    private static void mill() {
        LeatDays x = new LeatDays();
        due.is("mill(0) without DAYS", x.mill(0), LeatDays.STATE);
        due.is("mill(61) without DAYS", x.mill(61), LeatDays.BAD);
        due.is("mill(-1) without DAYS", x.mill(-1), LeatDays.BAD);
        x = Due.leat("d32f41p20");
        due.tells("mill(0)", x, x.mill(0), 0, 0);
        due.tells("mill(1)", x, x.mill(1), 6, 1);
        due.tells("mill(2)", x, x.mill(2), 20, 2);
        due.tells("mill(4)", x, x.mill(4), 23, 1);
        x.step();
        due.tells("from then on: mill(0)", x, x.mill(0), 0, 1);
        due.tells("from then on: mill(3)", x, x.mill(3), 17, 1);
        due.is("mill(61)", x.mill(61), LeatDays.BAD);
        LeatDays y = Due.leat("d90d90d90d90d90d90d90");
        due.tells("mill(60)", y, y.mill(60), 1080, 4);
        for (int i = 0; i < 40; i++) {
            y.step();
        }
        due.tells("mill(60) behind 40 DEEDS", y, y.mill(60), 1080, 2);
    }

    private static void turns() {
        LeatDays x = new LeatDays();
        due.is("turns() without DAYS", x.turns(), LeatDays.STATE);
        x = Due.leat("d10d90");
        x.day(1, 1);
        due.tells("turns() in none", x, x.turns(), LeatDays.NONE, 9);
        x = Due.leat("d21d51d21");
        // 4 9 2 1 6, then 4 less the 5 on the GRATING.
        due.tells("turns()", x, x.turns(), 6, 2);
        x = Due.leat("d00d90");
        due.tells("turns() in the first", x, x.turns(), 1, 0);
        x = Due.leat("d90d91");
        due.tells("turns() in STEP 37", x, x.turns(), 37, 0);
        x.fish(1);
        due.is("turns() in none then", x.turns(), LeatDays.NONE);
        turnsAtTheEnd();
    }

    private static void turnsAtTheEnd() {
        // The GRATING is CLOGGED by 1 more in each 9th STEP; FLOW 3 by 2 GRINDS nothing at 6.
        LeatDays x = Due.leat("d41d90d90d90d90d90d90d90d90");
        due.tells("turns() beyond 60", x, x.turns(), LeatDays.NONE, 0);
        x = Due.leat("d31d90d90d90d90d90d90d90d90");
        due.tells("turns() in STEP 55", x, x.turns(), 55, 0);
        x = Due.leat("d90d90d90d90d90d31d90d90d90");
        due.tells("turns() in STEP 60", x, x.turns(), 60, 5);
        x = Due.leat("d90d90d90d90d90d90d31d90d90");
        due.tells("turns() in STEP 61", x, x.turns(), LeatDays.NONE, 0);
    }

    private static void book() {
        LeatDays x = new LeatDays();
        due.is("book(1, 0) without DAYS", x.book(1, 0), LeatDays.STATE);
        due.is("book(1, 6) without DAYS", x.book(1, 6), LeatDays.BAD);
        x = Due.leat("d32f41p20");
        due.is("book(0, 0)", x.book(0, 0), LeatDays.BAD);
        due.is("book(21, 0)", x.book(21, 0), LeatDays.BAD);
        due.is("book(1, -1)", x.book(1, -1), LeatDays.BAD);
        due.is("count(8)", x.count(8), 0);
        due.is("book(7, 2)", x.book(7, 2), 1);
        // 0 1 2 0 1: CLOGGED by 2, 2, 5, 7, 7; then 2 GRINDS nothing, the WHEEL goes back to 1.
        int[] want = {6, 14, 2, 1, 9, 0, 6};
        for (int i = 0; i < want.length; i++) {
            due.tells("at(2, " + i + ")", x, x.at(2, i), 1, want[i]);
        }
        due.finds("at(2, 7)", x, x.at(2, 7), BEYOND);
        x.row(3, 40);
        due.is("book(20, 3) over a ROW", x.book(20, 3) >= 0 ? 1 : 0, 1);
        due.finds("at(3, 20)", x, x.at(3, 20), BEYOND);
        LeatDays y = Due.leat("d00d00");
        due.is("book(20, 5)", y.book(20, 5), 20);
        due.is("asked()", y.asked(), 0);
    }

    private static void nothingElseDone() {
        LeatDays x = Due.leat("h35d00f21");
        x.step();
        x.keep(0);
        x.row(1, 4);
        long before = x.digest();
        x.mill(60);
        x.turns();
        due.is("digest() as it was", x.digest(), before);
        x.book(4, 1);
        due.is("count(2) as it was", x.count(2), 1);
        due.is("count(5) as it was", x.count(5), 1);
    }
}
