/** Promises 34 to 36: chances of dry days, means, years by lots. */
public final class ChancesTest {
    private static final Due due = new Due();

    public static void main(String[] args) {
        refused();
        odds();
        dryDayLeavesNothingAndTurns();
        mid();
        lots();
        lotsRefused();
        nothingElseDone();
        due.end();
    }

    private static void refused() {
        LeatDays x = new LeatDays();
        due.is("odds(0, 0) without DAYS", x.odds(0, 0), LeatDays.STATE);
        due.is("odds(-1, 0) without DAYS", x.odds(-1, 0), LeatDays.BAD);
        due.is("mid(0) without DAYS", x.mid(0), LeatDays.STATE);
        due.is("mid(13) without DAYS", x.mid(13), LeatDays.BAD);
        x = Due.leat("d30d30");
        due.parts("odds(18, 6)", x, x.odds(18, 6), 21, 32);
        due.is("odds(401, 0)", x.odds(401, 0), LeatDays.BAD);
        due.is("odds(0, 13)", x.odds(0, 13), LeatDays.BAD);
        due.is("odds(0, -1)", x.odds(0, -1), LeatDays.BAD);
        due.is("mid(-1)", x.mid(-1), LeatDays.BAD);
        due.is("mid(13)", x.mid(13), LeatDays.BAD);
        due.is("upper() as it was", x.upper(), 21);
        due.is("lower() as it was", x.lower(), 32);
    }

    /** Two DAYS alike without DRIFT: 6 in each STEP that is not dry. */
    private static void odds() {
        LeatDays x = Due.leat("d30d30");
        due.parts("odds(36, 6)", x, x.odds(36, 6), 1, 64);
        due.parts("odds(31, 6)", x, x.odds(31, 6), 1, 64);
        due.parts("odds(30, 6)", x, x.odds(30, 6), 7, 64);
        due.parts("odds(1, 6)", x, x.odds(1, 6), 63, 64);
        due.parts("odds(0, 6)", x, x.odds(0, 6), 1, 1);
        due.parts("odds(37, 6)", x, x.odds(37, 6), 0, 1);
        due.parts("odds(400, 0)", x, x.odds(400, 0), 0, 1);
        due.parts("odds(36, 0)", x, x.odds(36, 0), 1, 1);
        due.parts("odds(1, 12)", x, x.odds(1, 12), 0, 1);
        due.parts("odds(0, 12)", x, x.odds(0, 12), 1, 1);
        // 11 to the 6th of 12 to the 6th; 1 of it.
        due.parts("odds(36, 1)", x, x.odds(36, 1), 1771561, 2985984);
        due.parts("odds(36, 11)", x, x.odds(36, 11), 1, 2985984);
        due.parts("odds(36, 4)", x, x.odds(36, 4), 64, 729);
    }

    private static void dryDayLeavesNothingAndTurns() {
        // All dry: 0, back to 1, on to 0, .. Not dry in the last alone: from DAY 1 on, 18 of it.
        LeatDays x = Due.leat("d13d90d00");
        due.parts("odds(0, 12)", x, x.odds(0, 12), 1, 1);
        long hits = 0;
        for (int dry = 0; dry < 64; dry++) {
            hits += groundByHand(dry) >= 18 ? 1 : 0;
        }
        long common = gcd(hits, 64);
        due.parts("odds(18, 6)", x, x.odds(18, 6), hits / common, 64 / common);
    }

    private static int groundByHand(int dry) {
        int[] flow = {1, 9, 0};
        int[] drift = {3, 0, 0};
        int at = 0, clog = 0, way = 1, ground = 0;
        for (int i = 0; i < 6; i++) {
            boolean isDry = (dry >> i) % 2 == 1;
            int flour = isDry ? 0 : Math.max(0, flow[at] * 2 - clog);
            clog += isDry ? 0 : drift[at];
            way = flour == 0 ? -way : way;
            ground += flour;
            at = Math.floorMod(at + way, 3);
        }
        return ground;
    }

    private static void mid() {
        LeatDays x = Due.leat("d30d30");
        due.parts("mid(0)", x, x.mid(0), 36, 1);
        due.parts("mid(6)", x, x.mid(6), 18, 1);
        due.parts("mid(1)", x, x.mid(1), 33, 1);
        due.parts("mid(12)", x, x.mid(12), 0, 1);
        x.hatch(1);
        due.parts("mid(1), less open", x, x.mid(1), 33, 2);
        due.parts("mid(5), less open", x, x.mid(5), 21, 2);
        LeatDays y = Due.leat("d13d90d00");
        long sum = 0;
        for (int dry = 0; dry < 64; dry++) {
            sum += groundByHand(dry);
        }
        long common = gcd(sum, 64);
        due.parts("mid(6)", y, y.mid(6), sum / common, 64 / common);
    }

    private static void lots() {
        for (int seed : new int[] {1, 2, 31, 4711, 2147483646}) {
            LeatDays x = Due.leat("d34f25h21e19r40");
            LeatDays y = Due.leat("d34f25h21e19r40");
            x.day(1, 1);
            int answer = x.lots(20, seed);
            due.is("asked() stays", x.asked(), 2);
            long lot = seed;
            for (int i = 0; i < 20; i++) {
                lot = lot * 48271 % 2147483647L;
                doSingly(y, lot);
            }
            due.is("lots(20, " + seed + ")", answer, y.count(5));
            due.is("count(2)", x.count(2), 20);
            for (int what : new int[] {1, 3, 4, 5, 6, 7}) {
                due.is("seed " + seed + ": count(" + what + ")", x.count(what), y.count(what));
            }
        }
        soFar();
    }

    private static void doSingly(LeatDays y, long lot) {
        if (lot % 6 == 0) {
            y.rake();
        } else if (lot % 6 == 1) {
            y.hatch((int) (lot / 8 % 5));
        } else {
            y.step();
        }
    }

    /** What was GROUND ahead of the LOTS counts, too; a clear grating, a hatch as it is are DEEDS. */
    private static void soFar() {
        LeatDays x = Due.leat("d90d90");
        x.step();
        // 48271 modulo 6 is 1: the HATCH is open by 6033 modulo 5.
        due.is("lots(1, 1)", x.lots(1, 1), 18);
        due.is("count(3)", x.count(3), 3);
        due.is("lots(1, 1) again", x.lots(1, 1), 18);
        due.is("count(2)", x.count(2), 3);
        // 48271 * 6 modulo 6 is 0.
        due.is("lots(1, 6)", x.lots(1, 6), 18);
        due.is("count(2)", x.count(2), 4);
        // 48271 * 2 modulo 6 is 2.
        due.is("lots(1, 2)", x.lots(1, 2), 45);
        due.is("undo(1)", x.undo(1), 4);
        due.is("count(5)", x.count(5), 18);
    }

    private static void lotsRefused() {
        LeatDays x = new LeatDays();
        due.is("lots(1, 1) without DAYS", x.lots(1, 1), LeatDays.STATE);
        due.is("lots(0, 1) without DAYS", x.lots(0, 1), LeatDays.BAD);
        x = Due.leat("d90d90");
        due.is("lots(0, 1)", x.lots(0, 1), LeatDays.BAD);
        due.is("lots(21, 1)", x.lots(21, 1), LeatDays.BAD);
        due.is("lots(1, 0)", x.lots(1, 0), LeatDays.BAD);
        due.is("lots(1, -1)", x.lots(1, -1), LeatDays.BAD);
        due.is("lots(1, 2147483647)", x.lots(1, 2147483647), LeatDays.BAD);
        x.lots(20, 9);
        x.step();
        long before = x.digest();
        due.is("lots(20, 9) beyond 40", x.lots(20, 9), LeatDays.FULL);
        due.is("digest() as it was", x.digest(), before);
        due.is("lots(19, 9) up to 40", x.lots(19, 9) >= 0 ? 1 : 0, 1);
        due.is("count(2)", x.count(2), 40);
        due.is("lots(1, 9)", x.lots(1, 9), LeatDays.FULL);
        due.is("lots(1, 0)", x.lots(1, 0), LeatDays.BAD);
    }

    private static void nothingElseDone() {
        LeatDays x = Due.leat("h35d02f21e35");
        x.step();
        long before = x.digest();
        x.odds(12, 5);
        x.mid(7);
        due.is("digest() as it was", x.digest(), before);
        due.is("asked() is not told", x.asked(), 1);
    }

    private static long gcd(long a, long b) {
        return b == 0 ? a : gcd(b, a % b);
    }
}
