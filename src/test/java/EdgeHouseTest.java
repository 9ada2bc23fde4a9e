/** Promises 27 to 36 and 39: a test of its own for each boundary of what is asked of the whole house. */
final class EdgeHouseTest {
    private static final String HOUSE = "sister 4;sister 8;sister 0;relic 0 1 10;relic 0 2 5;relic 1 1 20;"
            + "relic 2 0 7;pilgrim 1 12;pilgrim 1 20;pilgrim 2 6;pilgrim 3 1;";

    private EdgeHouseTest() {
    }

    public static void main(String[] args) {
        strongest();
        bare();
        hopeless();
        eldest();
        idle();
        needs();
        strength();
        weakest();
        yearBounds();
        yearSeeds();
        yearDraws();
        yearCures();
        span();
        spanSeeds();
        status();
        Checks.end("EdgeHouseTest");
    }

    private static RelicHouse after(String house, String work) {
        RelicHouse x = Checks.with(house);
        if (Checks.work(x, work) < 0) {
            throw new AssertionError("the test's own work is faulty: " + work);
        }
        return x;
    }

    private static void giveAll(RelicHouse x) {
        for (int r = 0; r < x.told(1); r++) {
            Checks.work(x, "give " + r + ";");
        }
    }

    private static void strongestDue(RelicHouse x, int relic, int power) {
        Checks.due("strongest(0)", x.strongest(0), relic);
        Checks.due("strongest(1)", x.strongest(1), power);
    }

    private static void strongest() {
        Checks.promise(27, "NONE both: none is KEPT");
        RelicHouse x = Checks.with(HOUSE);
        strongestDue(x, -1, -1);
        Checks.work(x, "give 2;back 2;give 3;die 2;");
        strongestDue(x, -1, -1);
        Checks.promise(27, "the greatest POWER, of alike ones the first");
        Checks.work(x, "give 1;");
        strongestDue(x, 1, 5);
        Checks.work(x, "give 2;");
        strongestDue(x, 2, 20);
        Checks.law(x, "9");
        strongestDue(x, 1, 9);
        Checks.promise(27, "POWER 0 and 99");
        Checks.law(x, "0");
        strongestDue(x, 1, 0);
        Checks.law(x, "worth*99");
        strongestDue(x, 1, 99);
        RelicHouse y = Checks.with("sister 0;" + "relic 0 0 1;".repeat(9) + "relic 0 0 2;");
        giveAll(y);
        strongestDue(y, 9, 2 + y.relic(9, 3));
        Checks.promise(27, "the first of all RELICS");
        Checks.work(y, "back 9;back 0;day;give 0;");
        Checks.law(y, "9-days");
        strongestDue(y, 0, 9);
        Checks.promise(27, "another what");
        Checks.noArgument("one below", () -> x.strongest(-1));
        Checks.noArgument("one above", () -> x.strongest(2));
        Checks.due("status(1)", x.status(1), 2);
    }

    private static void bare() {
        Checks.promise(28, "ills against which no KEPT RELIC is");
        RelicHouse x = Checks.with("sister 0;relic 0 0 1;relic 0 1 1;relic 0 2 1;relic 0 3 1;relic 0 4 1;relic 0 5 1;");
        Checks.due("all", x.bare(), 63);
        for (int r = 0; r < 6; r++) {
            Checks.work(x, "give " + r + ";");
            Checks.due("from " + r + " on", x.bare(), 63 & ~((2 << r) - 1));
        }
        Checks.due("none is left", x.bare(), 0);
        Checks.work(x, "back 5;");
        Checks.due("the last", x.bare(), 32);
        Checks.work(x, "die 0;");
        Checks.due("all", x.bare(), 63);
        Checks.promise(28, "KEPT, though of POWER 0");
        RelicHouse y = after("sister 0;relic 0 5 1;", "give 0;");
        Checks.law(y, "0");
        Checks.due("bare()", y.bare(), 31);
    }

    private static void hopeless() {
        Checks.promise(29, "in n days (0 to 99)");
        RelicHouse x = after("sister 0;relic 0 0 1;relic 0 1 1;pilgrim 0 1;pilgrim 0 2;pilgrim 0 99;pilgrim 1 1;", "give 0;");
        Checks.due("now", x.hopeless(0), 14);
        Checks.due("in 1 day", x.hopeless(1), 12);
        Checks.due("in 97 days", x.hopeless(97), 12);
        Checks.due("in 98 days", x.hopeless(98), 8);
        Checks.due("in 99 days", x.hopeless(99), 8);
        Checks.law(x, "days");
        Checks.due("in 98 days", x.hopeless(98), 12);
        Checks.due("in 99 days", x.hopeless(99), 8);
        Checks.noArgument("one below", () -> x.hopeless(-1));
        Checks.noArgument("one above", () -> x.hopeless(100));
        Checks.due("status(1)", x.status(1), 2);
        Checks.promise(29, "in n days: on that day, whatever could be done till then");
        Checks.law(x, "least[days, 1] * (3 - days)");
        Checks.due("today", x.hopeless(0), 15);
        Checks.due("in 1 day", x.hopeless(1), 12);
        Checks.due("in 2 days", x.hopeless(2), 14);
        Checks.due("in 3 days", x.hopeless(3), 15);
        Checks.promise(29, "that are not CURED");
        RelicHouse y = after("sister 0;relic 0 0 1;pilgrim 0 1;pilgrim 0 9;", "give 0;cure 0 0;back 0;");
        Checks.due("not the CURED one", y.hopeless(0), 2);
        Checks.promise(29, "CAN (used or not)");
        RelicHouse z = after("sister 0;relic 0 0 1;pilgrim 0 1;pilgrim 0 1;", "give 0;cure 0 0;");
        Checks.due("used", z.hopeless(0), 0);
        Checks.promise(29, "as many as there may be");
        Checks.due("all", Checks.with("pilgrim 0 1;".repeat(8)).hopeless(99), 255);
    }

    private static void eldestDue(RelicHouse x, int relic, int days) {
        Checks.due("eldest(0)", x.eldest(0), relic);
        Checks.due("eldest(1)", x.eldest(1), days);
    }

    private static void eldest() {
        Checks.promise(30, "NONE both: none is KEPT");
        RelicHouse x = Checks.with(HOUSE);
        eldestDue(x, -1, -1);
        Checks.work(x, "give 0;day;back 0;");
        eldestDue(x, -1, -1);
        Checks.promise(30, "KEPT longest, of alike ones the first, its DAYS");
        Checks.work(x, "give 3;");
        eldestDue(x, 3, 0);
        Checks.work(x, "give 1;");
        eldestDue(x, 1, 0);
        Checks.work(x, "day;give 0;");
        eldestDue(x, 1, 1);
        Checks.work(x, "back 1;");
        eldestDue(x, 3, 1);
        Checks.promise(30, "the first of all RELICS");
        Checks.work(x, "back 3;");
        eldestDue(x, 0, 0);
        Checks.work(x, "day;give 1;");
        eldestDue(x, 0, 1);
        Checks.promise(30, "another what");
        Checks.noArgument("one below", () -> x.eldest(-1));
        Checks.noArgument("one above", () -> x.eldest(2));
        Checks.due("status(1)", x.status(1), 2);
        Checks.promise(30, "the largest DAYS that there may be");
        RelicHouse y = after(HOUSE, "give 3;");
        for (int i = 0; i < 13; i++) {
            Checks.work(y, "again 40[day;];");
        }
        eldestDue(y, 3, 500);
    }

    private static void idle() {
        Checks.promise(31, "living SISTERS none of whose RELICS is KEPT");
        RelicHouse x = Checks.with("sister 0;".repeat(8) + "relic 0 0 1;relic 7 0 1;relic 7 0 1;");
        Checks.due("all", x.idle(), 255);
        Checks.work(x, "give 0;give 1;");
        Checks.due("but two", x.idle(), 255 - 1 - 128);
        Checks.work(x, "give 2;back 1;");
        Checks.due("one is enough", x.idle(), 255 - 1 - 128);
        Checks.work(x, "die 7;");
        Checks.due("not the dead", x.idle(), 255 - 1 - 128);
        Checks.work(x, "back 0;");
        Checks.due("all but the dead", x.idle(), 127);
        Checks.work(x, "die 0;die 1;die 2;die 3;die 4;die 5;die 6;");
        Checks.due("nobody is left", x.idle(), 0);
    }

    private static void needs() {
        Checks.promise(32, "of an ill (0 to 5)");
        RelicHouse x = Checks.with("sister 0;relic 0 0 30;pilgrim 0 7;pilgrim 5 9;pilgrim 5 99;");
        Checks.due("the least", x.needs(0), 7);
        Checks.due("of nobody", x.needs(1), 0);
        Checks.due("the largest", x.needs(5), 108);
        Checks.noArgument("one below", () -> x.needs(-1));
        Checks.noArgument("one above", () -> x.needs(6));
        Checks.due("status(1)", x.status(1), 2);
        Checks.promise(32, "that are not CURED");
        Checks.work(x, "give 0;cure 0 0;");
        Checks.due("nobody is left", x.needs(0), 0);
        Checks.promise(32, "as many as there may be");
        Checks.due("all together", Checks.with("pilgrim 3 99;".repeat(8)).needs(3), 792);
    }

    private static void strength() {
        Checks.promise(33, "POWER of all RELICS of a SISTER together");
        RelicHouse x = Checks.with("sister 0;sister 0;sister 0;" + "relic 1 0 30;".repeat(9) + "relic 2 0 7;");
        Checks.due("none is KEPT", x.strength(1), 0);
        giveAll(x);
        Checks.law(x, "99");
        Checks.due("of none of hers", x.strength(0), 0);
        Checks.due("of nine", x.strength(1), 891);
        Checks.due("of one", x.strength(2), 99);
        Checks.work(x, "die 1;");
        Checks.due("of a dead one", x.strength(1), 0);
        Checks.promise(33, "no such SISTER");
        Checks.noElement("one below", () -> x.strength(-1));
        Checks.noElement("one above", () -> x.strength(3));
        Checks.due("status(0)", x.status(0), 2);
    }

    private static void weakestDue(RelicHouse x, int sister, int lapses) {
        Checks.due("weakest(0)", x.weakest(0), sister);
        Checks.due("weakest(1)", x.weakest(1), lapses);
    }

    private static void weakest() {
        Checks.promise(34, "NONE both: none did");
        RelicHouse x = Checks.with(HOUSE);
        weakestDue(x, -1, -1);
        Checks.work(x, "give 0;give 2;give 3;lapse 0;");
        weakestDue(x, 0, 1);
        x.undo();
        weakestDue(x, -1, -1);
        Checks.promise(34, "lapsed most, of alike ones the first");
        Checks.work(x, "give 0;give 2;give 3;lapse 2;lapse 1;");
        weakestDue(x, 1, 1);
        Checks.work(x, "lapse 2;");
        weakestDue(x, 2, 2);
        Checks.work(x, "lapse 0;lapse 0;die 0;");
        weakestDue(x, 0, 2);
        Checks.promise(34, "another what");
        Checks.noArgument("one below", () -> x.weakest(-1));
        Checks.noArgument("one above", () -> x.weakest(2));
        Checks.due("status(1)", x.status(1), 2);
    }

    private static long drawn(long seed) {
        return seed * 1103515245L + 12345L & 0xffffffffL;
    }

    private static int bitsOf(long seed) {
        return (int) (seed >> 16 & 32767);
    }

    private static void yearBounds() {
        Checks.promise(35, "so many days (1 to 96)");
        RelicHouse x = after("sister 0;relic 0 0 1;", "give 0;");
        Checks.law(x, "days");
        Checks.due("1 day", x.year(1, 1, 2), 1);
        Checks.due("96 days", x.year(1, 96, 2), 96);
        Checks.noArgument("one below", () -> x.year(1, 0, 2));
        Checks.noArgument("one above", () -> x.year(1, 97, 2));
        Checks.noArgument("what one below", () -> x.year(1, 1, -1));
        Checks.noArgument("what one above", () -> x.year(1, 1, 4));
        Checks.due("status(1)", x.status(1), 4);
        Checks.promise(35, "asked, nothing stays changed");
        Checks.due("the DAY", x.told(3), 0);
        Checks.due("DAYS", x.relic(0, 3), 0);
        Checks.due("the same again", x.year(1, 96, 2), 96);
        Checks.promise(35, "a house in which nobody can be CURED or lapse");
        RelicHouse y = Checks.with(HOUSE);
        for (int what = 0; what <= 3; what++) {
            Checks.due("year(9, 96, " + what + ")", y.year(9, 96, what), 0);
        }
    }

    /** One sister who lapses by 9 of 16, and no pilgrims: one DRAW a day. */
    private static void yearSeeds() {
        Checks.promise(35, "the SEED (32 bits): it wraps; bits 16 to 30, what is left of them by 16");
        RelicHouse x = after("sister 9;relic 0 0 30;", "give 0;");
        int[] seeds = {0, 1, -1, Integer.MAX_VALUE, Integer.MIN_VALUE, 0x7fff0000, 0x80000000, 12345, -12345, 1103515245};
        for (int seed : seeds) {
            long s = seed & 0xffffffffL;
            int lapses = 0;
            for (int day = 1; day <= 12; day++) {
                s = drawn(s);
                lapses += bitsOf(s) % 16 < 9 ? 1 : 0;
                Checks.due("lapses by " + seed + " in " + day, x.year(seed, day, 1), lapses);
            }
        }
    }

    private static void yearDraws() {
        Checks.promise(35, "DRAW by 16 below T: T 0 never, though it is DRAWN; T 15 all but one of 16");
        RelicHouse x = after("sister 0;sister 15;relic 0 0 30;relic 1 0 30;", "give 0;give 1;");
        for (int seed = 0; seed < 12; seed++) {
            long s = seed;
            int lapses = 0;
            for (int day = 0; day < 40; day++) {
                s = drawn(drawn(s));
                lapses += bitsOf(s) % 16 < 15 ? 1 : 0;
            }
            Checks.due("lapses by " + seed, x.year(seed, 40, 1), lapses);
        }
        Checks.promise(35, "none is DRAWN for the dead and for those without a KEPT RELIC");
        RelicHouse y = after("sister 9;sister 9;sister 9;sister 9;relic 0 0 30;relic 1 0 30;relic 3 0 30;",
                "give 0;give 2;die 0;");
        for (int seed = 0; seed < 12; seed++) {
            long s = seed;
            int lapses = 0;
            for (int day = 0; day < 40; day++) {
                s = drawn(s);
                lapses += bitsOf(s) % 16 < 9 ? 1 : 0;
            }
            Checks.due("lapses by " + seed, y.year(seed, 40, 1), lapses);
        }
        Checks.promise(35, "without RELICS or PILGRIMS neither is DRAWN");
        RelicHouse z = Checks.with("sister 9;pilgrim 0 1;");
        Checks.due("without RELICS", z.year(3, 96, 0), 0);
    }

    private static void yearCures() {
        Checks.promise(35, "DRAW by how many RELICS, by how many PILGRIMS: cure");
        RelicHouse x = after("sister 0;relic 0 0 9;relic 0 1 9;relic 0 0 9;pilgrim 0 9;pilgrim 1 12;", "give 0;give 1;");
        for (int seed = 0; seed < 20; seed++) {
            long s = seed;
            int cured = 0;
            for (int day = 0; day < 9; day++) {
                s = drawn(s);
                s = drawn(s);
                int relic = bitsOf(s) % 3;
                s = drawn(s);
                int pilgrim = bitsOf(s) % 2;
                cured |= relic == 0 && pilgrim == 0 ? 1 : relic == 1 && pilgrim == 1 && day >= 3 ? 2 : 0;
            }
            Checks.due("who, by " + seed, x.year(seed, 9, 3), cured);
            Checks.due("how many, by " + seed, x.year(seed, 9, 0), Integer.bitCount(cured));
        }
        Checks.promise(35, "one RELIC and one PILGRIM: both are DRAWN all the same");
        RelicHouse u = after("sister 9;relic 0 0 9;pilgrim 0 9;", "give 0;");
        Checks.due("CURED on the first day, but for a lapse", u.year(1, 1, 0) + u.year(1, 1, 1), 1);
        for (int seed = 0; seed < 12; seed++) {
            long s = seed;
            int lapses = 0;
            for (int day = 0; day < 20; day++) {
                s = drawn(s);
                lapses += bitsOf(s) % 16 < 9 ? 1 : 0;
                s = drawn(drawn(s));
            }
            Checks.due("lapses by " + seed, u.year(seed, 20, 1), lapses);
        }
        Checks.promise(35, "how many were CURED in it, not ahead of it");
        RelicHouse y = after("sister 0;relic 0 0 9;pilgrim 0 9;", "give 0;cure 0 0;");
        Checks.due("in it", y.year(1, 96, 0), 0);
        Checks.due("then", y.year(1, 96, 3), 1);
        Checks.promise(35, "lapses in it, not ahead of it");
        RelicHouse z = after("sister 0;relic 0 0 9;", "give 0;lapse 0;lapse 0;");
        Checks.due("in it", z.year(1, 96, 1), 0);
        Checks.promise(35, "used this DAY, on the first day alone");
        RelicHouse w = after("sister 0;relic 0 0 9;pilgrim 0 9;pilgrim 0 9;", "give 0;cure 0 0;");
        Checks.due("1 day", w.year(1, 1, 0), 0);
        Checks.due("96 days", w.year(1, 96, 0), 1);
        Checks.promise(35, "as many CURED as there may be");
        RelicHouse v = after("sister 0;relic 0 0 9;" + "pilgrim 0 9;".repeat(8), "give 0;");
        Checks.due("one a day", v.year(1, 1, 0), 1);
        int most = 0;
        for (int seed = 0; seed < 20; seed++) {
            most = Math.max(most, v.year(seed, 96, 0));
        }
        Checks.due("all", most, 8);
    }

    private static void span() {
        Checks.promise(36, "so many SEEDS (1 to 20), so many days (1 to 96), what, a PILGRIM");
        RelicHouse x = after("sister 5;relic 0 0 9;relic 0 1 9;pilgrim 0 9;pilgrim 1 14;", "give 0;give 1;");
        Checks.due("1 SEED", x.span(5, 1, 9, 0, 0), x.year(5, 9, 0));
        Checks.noArgument("SEEDS one below", () -> x.span(5, 0, 9, 0, 0));
        Checks.noArgument("SEEDS one above", () -> x.span(5, 21, 9, 0, 0));
        Checks.noArgument("days one below", () -> x.span(5, 1, 0, 0, 0));
        Checks.noArgument("days one above", () -> x.span(5, 1, 97, 0, 0));
        Checks.noArgument("what one below", () -> x.span(5, 1, 9, -1, 0));
        Checks.noArgument("what one above", () -> x.span(5, 1, 9, 3, 0));
        Checks.due("status(1)", x.status(1), 6);
        Checks.promise(36, "no such PILGRIM, also for 0, 1");
        for (int what = 0; what <= 2; what++) {
            int w = what;
            Checks.noArgument("PILGRIM one below, what " + what, () -> x.span(5, 1, 9, w, -1));
            Checks.noArgument("PILGRIM one above, what " + what, () -> x.span(5, 1, 9, w, 2));
        }
        Checks.due("status(1)", x.status(1), 12);
        Checks.due("status(0)", x.status(0), 0);
        Checks.promise(36, "by how many a PILGRIM is CURED then: by all, by none");
        RelicHouse y = after("sister 0;relic 0 0 9;pilgrim 0 9;pilgrim 0 99;", "give 0;cure 0 0;");
        Checks.due("by all", y.span(5, 20, 96, 2, 0), 20);
        Checks.due("by none", y.span(5, 20, 1, 2, 1), 0);
        Checks.due("nobody in it", y.span(5, 20, 1, 1, 0), 0);
        Checks.due("asked, nothing stays changed", y.told(3), 0);
    }

    private static void spanSeeds() {
        Checks.promise(36, "seed, seed and 1, ..: it wraps");
        RelicHouse x = after("sister 5;relic 0 0 9;relic 0 1 9;pilgrim 0 9;pilgrim 1 14;pilgrim 1 9;", "give 0;give 1;");
        int[] seeds = {0, -10, Integer.MAX_VALUE, Integer.MAX_VALUE - 9, Integer.MIN_VALUE};
        for (int seed : seeds) {
            int fewest = 9;
            int most = 0;
            int times = 0;
            for (int i = 0; i < 20; i++) {
                int many = x.year(seed + i, 4, 0);
                fewest = Math.min(fewest, many);
                most = Math.max(most, many);
                times += x.year(seed + i, 4, 3) >> 2 & 1;
            }
            Checks.due("the fewest from " + seed, x.span(seed, 20, 4, 0, 0), fewest);
            Checks.due("the most from " + seed, x.span(seed, 20, 4, 1, 0), most);
            Checks.due("by how many from " + seed, x.span(seed, 20, 4, 2, 2), times);
        }
    }

    private static void status() {
        Checks.promise(39, "how many calls were refused");
        RelicHouse x = Checks.with(HOUSE);
        for (int i = 1; i <= 40; i++) {
            Checks.noElement("refused", () -> x.ring(3));
            Checks.due("status(0)", x.status(0), i);
            Checks.noArgument("refused", () -> x.told(11));
            Checks.due("status(1)", x.status(1), i);
        }
        Checks.promise(39, "what answers is not refused: a FAULT, NONE, -1, -20");
        Checks.law(x, "?");
        x.undo();
        x.restore();
        x.count(3);
        x.status(2);
        Checks.due("status(0)", x.status(0), 40);
        Checks.due("status(1)", x.status(1), 40);
        Checks.promise(39, "no IMAGE keeps it");
        x.image();
        Checks.noElement("refused", () -> x.ring(3));
        Checks.noArgument("refused", () -> x.told(11));
        x.restore();
        Checks.due("status(0) behind restore()", x.status(0), 41);
        Checks.due("status(1) behind restore()", x.status(1), 41);
        Checks.work(x, "day;");
        x.undo();
        Checks.house(x, HOUSE);
        Checks.due("status(0) behind undo() and a HOUSE", x.status(0), 41);
        Checks.due("status(1) behind undo() and a HOUSE", x.status(1), 41);
        Checks.promise(39, "each object has its own");
        Checks.due("status(0)", new RelicHouse().status(0), 0);
    }
}
