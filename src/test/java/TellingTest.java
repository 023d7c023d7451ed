/** Promises 37 to 43: what is told. */
public final class TellingTest {
    private static final int NOTHING = 1, BEYOND = 2, UNLIKE = 3, NOUGHT = 4, SIZE = 5;
    private static final Due due = new Due();

    public static void main(String[] args) {
        asked();
        upperAndLower();
        count();
        findings();
        digestOfNone();
        digest();
        due.end();
    }

    private static void asked() {
        LeatDays x = new LeatDays();
        due.is("asked() before", x.asked(), 0);
        Due.row(x, 0, 5, 7);
        due.tells("lay()", x, x.lay(0, 0, 6), 1, 5);
        due.tells("at()", x, x.at(0, 1), 1, 7);
        due.tells("mean()", x, x.mean(0), 1, 6);
        Due.write(x, 0, "d31p92");
        x.leat(0);
        due.is("leat() tells nothing", x.asked(), 6);
        due.tells("day()", x, x.day(1, 1), 1, 9);
        due.tells("hatch() tells nothing", x, x.hatch(3), 2, 9);
        due.tells("step()", x, x.step(), 9, 1);
        due.tells("rake() tells nothing", x, x.rake(), 1, 1);
        due.tells("mill()", x, x.mill(1), 27, 0);
        due.tells("best()", x, x.best(1), 4, 36);
        due.tells("turns()", x, x.turns(), 4, 0);
        due.tells("rakes()", x, x.rakes(2, 32), 1, 2);
        due.tells("fishes()", x, x.fishes(2), 1, 33);
        due.tells("fish() tells nothing", x, x.fish(1), 2, 33);
        due.tells("look()", x, x.look(1), 2, 3);
        due.tells("undo() tells nothing", x, x.undo(2), 2, 3);
        due.tells("refused at()", x, x.at(0, 9), LeatDays.FINDING, 3);
        due.tells("refused mill()", x, x.mill(99), LeatDays.BAD, 3);
        due.tells("NONE by rakes()", x, x.rakes(1, 400), LeatDays.NONE, 3);
        due.tells("NONE by fishes()", x, x.fishes(1), LeatDays.NONE, 3);
        due.tells("count() tells nothing", x, x.count(0), 2, 3);
    }

    private static void upperAndLower() {
        LeatDays x = new LeatDays();
        due.is("upper() before", x.upper(), 0);
        due.is("lower() before", x.lower(), 1);
        Due.write(x, 0, "d30d30");
        x.leat(0);
        due.parts("mid(1)", x, x.mid(1), 33, 1);
        x.step();
        due.is("upper() stays", x.upper(), 33);
        due.parts("odds(36, 6)", x, x.odds(36, 6), 1, 64);
        x.leat(0);
        due.is("lower() stays", x.lower(), 64);
        due.parts("odds(37, 6)", x, x.odds(37, 6), 0, 1);
    }

    private static void count() {
        LeatDays x = Due.leat("d31f22e13p04h95d90");
        x.step();
        x.hatch(4);
        x.step();
        x.fish(4);
        x.fish(0);
        x.row(1, 3);
        x.row(2, 0);
        x.row(4, 9);
        x.text(3, 7);
        x.keep(2);
        int[] want = {6, 2, 5, 4, 2, 21, 0, 17, 3, 2, 1, 2, 2};
        for (int what = 0; what < want.length; what++) {
            due.is("count(" + what + ")", x.count(what), want[what]);
        }
        due.is("count(13)", x.count(13), LeatDays.BAD);
        due.is("count(-1)", x.count(-1), LeatDays.BAD);
        LeatDays back = Due.leat("d00d10");
        back.step();
        due.is("count(6)", back.count(6), 1);
        back.step();
        back.step();
        due.is("count(6) on again", back.count(6), 0);
    }

    private static void findings() {
        LeatDays x = new LeatDays();
        due.is("finding() before", x.finding(), 0);
        for (int f = 1; f <= 5; f++) {
            due.is("findings(" + f + ") before", x.findings(f), 0);
        }
        due.is("findings(0)", x.findings(0), LeatDays.BAD);
        due.is("findings(6)", x.findings(6), LeatDays.BAD);
        due.is("findings(-1)", x.findings(-1), LeatDays.BAD);
        due.finds("at(0, 0)", x, x.at(0, 0), NOTHING);
        due.finds("tear(0)", x, x.tear(0), NOTHING);
        x.row(0, 0);
        due.is("finding() stays", x.finding(), NOTHING);
        due.finds("at(0, 0)", x, x.at(0, 0), BEYOND);
        due.finds("mean(0)", x, x.mean(0), NOUGHT);
        due.finds("row(0, -1)", x, x.row(0, -1), SIZE);
        due.finds("text(0, -1)", x, x.text(0, -1), SIZE);
        due.finds("copy(0, 0, 0, 0, -1)", x, x.copy(0, 0, 0, 0, -1), SIZE);
        Due.write(x, 0, "d31f22");
        x.leat(0);
        due.finds("mark(0, 1)", x, x.mark(0, 1), UNLIKE);
        due.is("mill(99)", x.mill(99), LeatDays.BAD);
        due.is("finding() by FINDINGS alone", x.finding(), UNLIKE);
        int[] want = {0, 2, 1, 1, 1, 3};
        for (int f = 1; f <= 5; f++) {
            due.is("findings(" + f + ")", x.findings(f), want[f]);
        }
    }

    private static void digestOfNone() {
        long h = 17;
        for (int i = 0; i < 13; i++) {
            h = 31 * h;
        }
        for (int i = 0; i < 3 + 6 + 4; i++) {
            h = 31 * h - 1;
        }
        due.is("digest() of a new object", new LeatDays().digest(), h);
    }

    private static void digest() {
        LeatDays x = Due.leat("d31h22");
        x.step();
        x.keep(1);
        x.fish(1);
        Due.row(x, 5, -7, 70);
        x.text(2, 1);
        x.put(2, 0, 200);
        x.at(5, 1);
        x.tear(4);
        long[] values = {
            2, 1, 2, 2, 1, 6, 0, 2, 1, 2, 1, 0, 1,
            0, 3, 1, 5, 1, 0,
            5, 2, 0, 3, 6, 1,
            -1, 1, -1,
            -1, -1, -1, -1, -1, 2, -7, 70,
            6, 'd', '3', '1', 'h', '2', '2', -1, 1, -56, -1,
        };
        long h = 17;
        for (long v : values) {
            h = 31 * h + v;
        }
        due.is("digest()", x.digest(), h);
        due.is("asked() stays", x.asked(), 70);
        due.is("finding() stays", x.finding(), NOTHING);
    }
}
