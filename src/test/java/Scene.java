/** Objects in which a boundary case is looked at: each make() gives one just as the others are. */
enum Scene {
    /** As it is made. */
    NEW,
    /** ROWS and TEXTS, but no DAYS. */
    BARE,
    /** 3 DAYS, 5 DEEDS, LEATS kept in places 0 and 2. */
    LIVED,
    /** The same with 40 DEEDS; the GRATING is CLOGGED, DAY 1 was FISHED. */
    FULL;

    /** ROWS: 0 of 3, 1 of none, 2 of 20, 3 of 21, 5 of 40; 4 is missing. TEXTS: 0 a LEAT, 1 a FAULT, 2 of none. */
    static final int MISSING_ROW = 4, EMPTY_ROW = 1, MISSING_TEXT = 3, FAULTY_TEXT = 1, MISSING_PLACE = 1;
    /** What asked() tells, unlike anything that a call under test would tell. */
    static final int TOLD = 5555;

    LeatDays make() {
        LeatDays x = new LeatDays();
        if (this == NEW) {
            return x;
        }
        rowsAndTexts(x);
        if (this != BARE) {
            leatAndDeeds(x);
        }
        if (this == FULL) {
            fill(x);
        }
        x.tear(MISSING_ROW);
        x.mean(EMPTY_ROW);
        x.at(0, 1);
        return x;
    }

    private static void rowsAndTexts(LeatDays x) {
        Due.row(x, 0, 44, TOLD, 66);
        x.row(1, 0);
        x.row(2, 20);
        x.row(3, 21);
        x.row(5, 40);
        x.lay(5, 39, -7);
        Due.write(x, 0, "d31h22e11");
        Due.write(x, 1, "d1");
        x.text(2, 0);
    }

    private static void leatAndDeeds(LeatDays x) {
        x.leat(0);
        x.step();
        x.fish(1);
        x.hatch(3);
        x.keep(0);
        x.step();
        x.keep(2);
        x.hatch(4);
        x.odds(60, 5);
    }

    private static void fill(LeatDays x) {
        for (int i = x.count(2); i < 40; i++) {
            x.step();
        }
        x.keep(0);
    }
}
