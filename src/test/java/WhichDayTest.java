/** Promises 29 to 32: which day it is, how it flows, of which kind it is, the hatch to look at. */
public final class WhichDayTest {
    private static final int NOTHING = 1, UNLIKE = 3, SIZE = 5;
    private static final Due due = new Due();

    public static void main(String[] args) {
        where();
        whereRefused();
        flows();
        kinds();
        flowsAndKindsRefused();
        look();
        nothingElseDone();
        due.end();
    }

    private static void where() {
        LeatDays x = Due.leat("d30d31d30f40");
        Due.row(x, 0, 6);
        due.is("where of 6", x.where(0), 7);
        Due.row(x, 0, 6, 6);
        due.is("where of 6 6", x.where(0), 1);
        Due.row(x, 0, 6, 5);
        due.is("where of 6 5", x.where(0), 2);
        Due.row(x, 0, 6, 16);
        due.is("where of 6 16", x.where(0), 4);
        Due.row(x, 0, 16, 6, 6, 5);
        due.is("where of 16 6 6 5", x.where(0), 8);
        Due.row(x, 0, 400);
        due.is("where of 400", x.where(0), 0);
        x.step();
        Due.row(x, 0, 6, 6);
        due.is("where of 6 6, a STEP on", x.where(0), 1);
        x.hatch(0);
        x.row(0, 20);
        due.is("where of 20 times nothing", x.where(0), 15);
        // Going back, the DAY ahead comes next.
        x.step();
        x.hatch(2);
        Due.row(x, 0, 5, 5, 4);
        due.is("where, going back and CLOGGED", x.where(0), 4);
    }

    private static void whereRefused() {
        LeatDays x = new LeatDays();
        due.is("where(6) without DAYS", x.where(6), LeatDays.BAD);
        due.is("where(-1) without DAYS", x.where(-1), LeatDays.BAD);
        due.is("where(0) without DAYS", x.where(0), LeatDays.STATE);
        due.is("finding()", x.finding(), 0);
        x = Due.leat("d30d31");
        due.finds("where(0)", x, x.where(0), NOTHING);
        x.row(0, 0);
        due.finds("where of none", x, x.where(0), SIZE);
        x.row(0, 21);
        x.lay(0, 0, -1);
        due.finds("where of 21, one below 0", x, x.where(0), SIZE);
        Due.row(x, 0, 6, 5, -1);
        due.finds("where of one below 0", x, x.where(0), UNLIKE);
        Due.row(x, 0, -1);
        due.finds("where of one alone, below 0", x, x.where(0), UNLIKE);
        Due.row(x, 0, 6, -1);
        Due.row(x, 0, 6);
        due.is("where of a shorter ROW anew", x.where(0), 3);
        Due.row(x, 0, 0, Integer.MIN_VALUE);
        due.finds("where of the least", x, x.where(0), UNLIKE);
    }

    private static void flows() {
        LeatDays x = Due.leat("d35f35r35h35");
        Due.row(x, 0, 6);
        due.is("flows(0) of 6", x.flows(0, 0), 1 << 3);
        due.is("flows(1) of 6", x.flows(1, 0), 1023);
        Due.row(x, 0, 6, 7);
        due.is("flows(1) of 6 7", x.flows(1, 0), 1 << 3);
        due.is("flows(0) of 6 7", x.flows(0, 0), 1 << 3);
        Due.row(x, 0, 6, 7, 0);
        due.is("flows(2) of 6 7 0", x.flows(2, 0), 255);
        due.is("flows(3) of 6 7 0", x.flows(3, 0), 1023);
        Due.row(x, 0, 7);
        due.is("flows(0) of 7", x.flows(0, 0), 0);
        Due.row(x, 0, 18);
        due.is("flows(0) of 18", x.flows(0, 0), 512);
        x.hatch(0);
        Due.row(x, 0, 0);
        due.is("flows(0) of 0, closed", x.flows(0, 0), 1023);
    }

    private static void kinds() {
        LeatDays x = Due.leat("d31d90");
        Due.row(x, 0, 6);
        due.is("kinds(0) of 6", x.kinds(0, 0), 1 | 8);
        Due.row(x, 0, 6, 17);
        due.is("kinds(0) of 6 17", x.kinds(0, 0), 1);
        Due.row(x, 0, 6, 14);
        due.is("kinds(0) of 6 14", x.kinds(0, 0), 8);
        Due.row(x, 0, 12);
        due.is("kinds(0) of 12", x.kinds(0, 0), 2 | 16);
        Due.row(x, 0, 3);
        due.is("kinds(0) of 3", x.kinds(0, 0), 4);
        Due.row(x, 0, 5);
        due.is("kinds(0) of 5", x.kinds(0, 0), 32);
        due.is("kinds(1) of 5", x.kinds(1, 0), 0);
        x.hatch(4);
        Due.row(x, 0, 29);
        due.is("kinds(0) of 29, wide", x.kinds(0, 0), 16);
        x.fish(0);
        Due.row(x, 0, 12);
        due.is("kinds(0) of 12, wide, FISHED", x.kinds(0, 0), 1 | 8 | 32);
    }

    private static void flowsAndKindsRefused() {
        LeatDays none = new LeatDays();
        none.row(0, 1);
        due.is("flows(0, 0) without DAYS", none.flows(0, 0), LeatDays.BAD);
        due.is("kinds(0, 0) without DAYS", none.kinds(0, 0), LeatDays.BAD);
        LeatDays x = Due.leat("d30d31");
        x.row(0, 1);
        due.is("flows(2, 0)", x.flows(2, 0), LeatDays.BAD);
        due.is("flows(-1, 0)", x.flows(-1, 0), LeatDays.BAD);
        due.is("flows(0, 6)", x.flows(0, 6), LeatDays.BAD);
        due.is("kinds(2, 0)", x.kinds(2, 0), LeatDays.BAD);
        due.is("kinds(-1, 0)", x.kinds(-1, 0), LeatDays.BAD);
        due.is("kinds(0, -1)", x.kinds(0, -1), LeatDays.BAD);
        due.is("finding()", x.finding(), 0);
        due.finds("flows(0, 1)", x, x.flows(0, 1), NOTHING);
        due.finds("kinds(0, 1)", x, x.kinds(0, 1), NOTHING);
        x.row(1, 0);
        due.finds("flows of none", x, x.flows(0, 1), SIZE);
        due.finds("kinds of none", x, x.kinds(0, 1), SIZE);
        x.row(1, 21);
        x.lay(1, 20, -1);
        due.finds("flows of 21", x, x.flows(0, 1), SIZE);
        due.finds("kinds of 21", x, x.kinds(0, 1), SIZE);
        x.row(1, 20);
        x.lay(1, 19, -1);
        due.finds("flows of one below 0", x, x.flows(0, 1), UNLIKE);
        due.finds("kinds of one below 0", x, x.kinds(0, 1), UNLIKE);
    }

    private static void look() {
        LeatDays x = Due.leat("d31d00d30d29");
        // By 1: 3 6 3 3 6 2; by 2: 6 12 3 6 12 5; by 4: 12 24 3 12 29 11.
        due.tells("look(0)", x, x.look(0), 2, 2);
        due.tells("look(1)", x, x.look(1), 4, 5);
        // By 2: 6 12 3 6 12 6; by 4: 12 24 3 12 29 12.
        due.tells("look(2)", x, x.look(2), 2, 3);
        // By 1: 2 4 2 2 4 0; by 2: 4 8 2 4 8 0.
        due.tells("look(3)", x, x.look(3), 2, 2);
        x.fish(3);
        due.tells("look(3), FISHED", x, x.look(3), 2, 3);
        due.is("look(4)", x.look(4), LeatDays.BAD);
        due.is("look(-1)", x.look(-1), LeatDays.BAD);
        due.is("asked() as it was", x.asked(), 3);
        due.is("look(0) without DAYS", new LeatDays().look(0), LeatDays.BAD);
        LeatDays y = Due.leat("h99h99");
        y.step();
        // CLOGGED by 24; by 2: 0 12 0 0 12 0; by 3: 3 30 0 3 30 0.
        due.tells("look(0), CLOGGED", y, y.look(0), 3, 2);
    }

    private static void nothingElseDone() {
        LeatDays x = Due.leat("h35d02f21e35");
        x.step();
        Due.row(x, 0, 1, 2);
        x.keep(0);
        long before = x.digest();
        x.where(0);
        x.flows(1, 0);
        x.kinds(1, 0);
        due.is("asked() is not told", x.asked(), 0);
        x.look(1);
        due.is("digest() as it was", x.digest(), before);
    }
}
