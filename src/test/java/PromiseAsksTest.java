/** Promises 13, 15 to 36 and 39: what is asked, with the edges of each and the wrong inputs. */
final class PromiseAsksTest {
    private static final String HOUSE = "sister 4;sister 8;sister 0;relic 0 1 10;relic 0 2 5;relic 1 1 20;"
            + "relic 2 0 7;pilgrim 1 12;pilgrim 1 20;pilgrim 2 6;pilgrim 3 1;";

    private PromiseAsksTest() {
    }

    public static void main(String[] args) {
        would();
        when();
        ahead();
        match();
        lapsed();
        ask();
        best();
        without();
        ring();
        follows();
        tempted();
        alms();
        strongest();
        bareAndIdle();
        hopeless();
        eldest();
        needs();
        strength();
        weakest();
        year();
        yearCures();
        span();
        status();
        Checks.end("PromiseAsksTest");
    }

    private static void would() {
        RelicHouse x = new RelicHouse();
        Checks.due("by no LAW", x.would(30, 10, 4, 15, 5, 9, 7, 500), 32);
        Checks.due("0 at least", x.would(1, 0, 999, 0, 0, 0, 0, 0), 0);
        Checks.due("99 at most", x.would(1, 999, 0, 0, 0, 0, 0, 0), 99);
        Checks.noArgument("worth 0", () -> x.would(0, 0, 0, 0, 0, 0, 0, 0));
        Checks.noArgument("worth 31", () -> x.would(31, 0, 0, 0, 0, 0, 0, 0));
        int[] most = {30, 999, 999, 15, 5, 9, 7, 500};
        for (int i = 1; i < 8; i++) {
            int[] v = {1, 0, 0, 0, 0, 0, 0, 0};
            v[i] = -1;
            Checks.noArgument("value " + i + " below", () -> x.would(v[0], v[1], v[2], v[3], v[4], v[5], v[6], v[7]));
            int[] w = {1, 0, 0, 0, 0, 0, 0, 0};
            w[i] = most[i] + 1;
            Checks.noArgument("value " + i + " above", () -> x.would(w[0], w[1], w[2], w[3], w[4], w[5], w[6], w[7]));
        }
    }

    private static void when() {
        RelicHouse x = Checks.with(HOUSE + "pilgrim 1 99;");
        Checks.due("not KEPT", x.when(0, 0), -1);
        Checks.work(x, "give 0;give 2;");
        Checks.due("in 2 days", x.when(0, 0), 2);
        Checks.due("now", x.when(2, 1), 0);
        Checks.due("another ill", x.when(2, 2), -1);
        Checks.work(x, "cure 2 1;");
        Checks.due("used and CURED all the same", x.when(2, 1), 0);
        Checks.law(x, "day - 101");
        Checks.due("in 200 days", x.when(0, 4), 200);
        Checks.law(x, "day - 102");
        Checks.due("not in 200 days", x.when(0, 4), -1);
        Checks.law(x, "10 - days");
        Checks.due("never", x.when(0, 0), -1);
        Checks.law(x, "days % 4 * 7");
        Checks.due("the first of several", x.when(0, 0), 2);
        Checks.work(x, "again 40[day;day;day;day;];");
        Checks.work(x, "again 40[day;day;day;day;];");
        Checks.work(x, "again 40[day;day;day;day;];");
        Checks.work(x, "again 40[day;];");
        Checks.law(x, "day - 501");
        Checks.due("beyond DAY 500", x.when(0, 4), 100);
        Checks.due("asked, nothing stays changed", x.told(3), 500);
        Checks.noElement("when(4, 0)", () -> x.when(4, 0));
        Checks.noElement("when(0, 5)", () -> x.when(0, 5));
        Checks.noElement("when(-1, 0)", () -> x.when(-1, 0));
        Checks.noElement("when(0, -1)", () -> x.when(0, -1));
    }

    private static void ahead() {
        RelicHouse x = Checks.with(HOUSE);
        Checks.work(x, "give 0;again 5[day;];");
        Checks.due("now", x.ahead(0, 0, 0), 15);
        Checks.due("in 3 days", x.ahead(0, 3, 0), 18);
        Checks.due("in 99 days", x.ahead(0, 99, 0), 99);
        Checks.due("lapsed now", x.ahead(0, 0, 1), 10);
        Checks.due("lapsed, then 3 days", x.ahead(0, 3, 1), 13);
        Checks.due("not KEPT", x.ahead(1, 3, 0), 0);
        Checks.due("not KEPT, though she can lapse", x.ahead(1, 3, 1), 0);
        Checks.due("nothing stays changed", x.sister(0, 1), 0);
        Checks.law(x, "day");
        Checks.due("the DAY goes by", x.ahead(0, 7, 0), 12);
        Checks.due("the DAY goes by, too", x.ahead(0, 7, 1), 12);
        Checks.law(x, "lapses * 10 + days");
        Checks.work(x, "give 2;give 3;again 9[day;];lapse 1;lapse 1;lapse 2;");
        Checks.due("her own lapses", x.ahead(2, 1, 0), 23);
        Checks.due("her own lapses and one more", x.ahead(2, 1, 1), 32);
        Checks.due("her own lapses", x.ahead(3, 0, 0), 14);
        Checks.due("her own lapses and one more", x.ahead(3, 0, 1), 22);
        Checks.noArgument("n -1", () -> x.ahead(0, -1, 0));
        Checks.noArgument("n 100", () -> x.ahead(0, 100, 0));
        Checks.noArgument("what 2", () -> x.ahead(0, 0, 2));
        Checks.noArgument("what -1", () -> x.ahead(0, 0, -1));
        Checks.noElement("the element goes ahead", () -> x.ahead(4, 100, 2));
    }

    private static void matchDue(String house, String work, int... due) {
        RelicHouse x = Checks.with(house);
        Checks.work(x, work);
        int many = 0;
        for (int relic : due) {
            many += relic == -1 ? 0 : 1;
        }
        Checks.due("match() of '" + house + "'", x.match(), many);
        for (int p = 0; p < due.length; p++) {
            Checks.due("matched(" + p + ") of '" + house + "'", x.matched(p), due[p]);
        }
    }

    private static void match() {
        matchDue("sister 0;relic 0 0 9;relic 0 0 5;pilgrim 0 5;pilgrim 0 9;", "give 0;give 1;", 1, 0);
        matchDue("sister 0;relic 0 0 5;relic 0 0 9;pilgrim 0 5;pilgrim 0 9;", "give 0;give 1;", 0, 1);
        matchDue("sister 0;relic 0 0 9;relic 0 0 9;pilgrim 0 9;pilgrim 0 9;pilgrim 0 9;", "give 0;give 1;", 0, 1, -1);
        matchDue("sister 0;relic 0 0 9;relic 0 1 9;pilgrim 0 9;pilgrim 0 9;pilgrim 1 9;", "give 0;give 1;", 0, -1, 1);
        matchDue("sister 0;relic 0 0 9;pilgrim 0 10;pilgrim 1 1;", "give 0;", -1, -1);
        matchDue("sister 0;relic 0 0 9;relic 0 0 9;pilgrim 0 9;pilgrim 0 9;", "give 1;", 1, -1);
        matchDue("sister 0;relic 0 0 9;relic 0 0 9;pilgrim 0 9;pilgrim 0 9;", "give 0;give 1;cure 0 0;", -1, 1);
        matchDue("sister 0;relic 0 0 9;relic 0 0 9;pilgrim 0 9;pilgrim 0 9;", "give 0;give 1;cure 0 0;day;", -1, 0);
        matchDue("sister 0;relic 0 0 5;relic 0 0 7;relic 0 0 9;pilgrim 0 5;pilgrim 0 5;pilgrim 0 7;",
                "give 0;give 1;give 2;", 0, 1, 2);
        matchDue("sister 0;relic 0 0 9;relic 0 0 7;relic 0 0 5;pilgrim 0 5;pilgrim 0 7;pilgrim 0 9;",
                "give 0;give 1;give 2;", 2, 1, 0);
        matchDue("sister 0;" + "relic 0 0 9;".repeat(10) + "pilgrim 0 9;".repeat(8), "again 1[give 9;give 7;give 5;];",
                5, 7, 9, -1, -1, -1, -1, -1);
        RelicHouse x = Checks.with(HOUSE);
        Checks.noElement("matched(4)", () -> x.matched(4));
        Checks.noElement("matched(-1)", () -> x.matched(-1));
        Checks.due("nobody in a new house", new RelicHouse().match(), 0);
    }

    /** Powers 12, 12 and 0; 9 in place of 12, had she lapsed. */
    private static RelicHouse threeSisters() {
        RelicHouse x = Checks.with("sister 0;sister 0;sister 0;relic 0 0 10;relic 1 0 10;relic 2 0 10;");
        Checks.work(x, "give 0;give 1;day;day;");
        return x;
    }

    private static void lapsedDue(RelicHouse x, String seen, int sets, int first, int sure) {
        Checks.seen(x, seen);
        Checks.due("lapsed(0) by '" + seen + "'", x.lapsed(0), sets);
        Checks.due("lapsed(1) by '" + seen + "'", x.lapsed(1), first);
        Checks.due("lapsed(2) by '" + seen + "'", x.lapsed(2), sure);
    }

    private static void lapsed() {
        RelicHouse x = threeSisters();
        lapsedDue(x, "", 4, 0, 0);
        lapsedDue(x, "0 12;", 2, 0, 0);
        lapsedDue(x, "0 9;", 2, 1, 1);
        lapsedDue(x, "1 9;", 2, 2, 2);
        lapsedDue(x, "0 9;1 12;", 1, 1, 1);
        lapsedDue(x, "0 9;1 9;2 0;", 1, 3, 3);
        lapsedDue(x, "0 10;", 0, -1, 0);
        lapsedDue(x, "2 1;", 0, -1, 0);
        lapsedDue(x, "2 0;", 4, 0, 0);
        Checks.law(x, "worth");
        lapsedDue(x, "0 10;1 10;", 4, 0, 0);
        Checks.work(x, "die 1;");
        lapsedDue(x, "", 2, 0, 0);
        lapsedDue(x, "1 0;", 2, 0, 0);
        Checks.due("nothing stays changed", x.sister(0, 1), 0);
        Checks.noArgument("lapsed(3)", () -> x.lapsed(3));
        Checks.noArgument("lapsed(-1)", () -> x.lapsed(-1));
        // two lines of one sister must both fit
        RelicHouse y = Checks.with("sister 0;relic 0 0 10;relic 0 0 20;");
        Checks.work(y, "give 0;give 1;day;day;");
        lapsedDue(y, "0 9;1 19;", 1, 1, 1);
        lapsedDue(y, "0 9;1 22;", 0, -1, 0);
    }

    private static void askDue(RelicHouse x, String seen, int relic, int left) {
        Checks.seen(x, seen);
        Checks.due("ask(0) by '" + seen + "'", x.ask(0), relic);
        Checks.due("ask(1) by '" + seen + "'", x.ask(1), left);
    }

    private static void ask() {
        RelicHouse x = threeSisters();
        askDue(x, "", 0, 2);
        askDue(x, "0 12;", 1, 1);
        askDue(x, "1 12;", 0, 1);
        askDue(x, "0 12;1 12;", 2, 1);
        askDue(x, "2 0;", 0, 2);
        askDue(x, "2 1;", 0, 0);
        askDue(x, "0 10;", 1, 0);
        askDue(x, "0 12;1 12;2 0;", -1, -1);
        Checks.law(x, "lapses * sister");
        askDue(x, "", 1, 2);
        // of a sister who is sure to have lapsed, or not to, another relic tells nothing
        RelicHouse y = Checks.with("sister 0;sister 0;relic 0 0 10;relic 0 0 10;relic 1 0 10;");
        Checks.work(y, "give 0;give 1;give 2;day;day;");
        askDue(y, "0 9;", 2, 1);
        askDue(y, "0 12;", 2, 1);
        askDue(y, "0 12;2 9;", 1, 1);
        Checks.work(y, "back 2;");
        askDue(y, "0 9;", 1, 1);
        Checks.noArgument("ask(2)", () -> x.ask(2));
        Checks.noArgument("ask(-1)", () -> x.ask(-1));
        Checks.due("a house without relics", new RelicHouse().ask(1), -1);
    }

    private static void bestDue(RelicHouse x, int relic, int n, long above, long below) {
        Checks.due("best(" + relic + ", " + n + ", 0)", x.best(relic, n, 0), above);
        Checks.due("best(" + relic + ", " + n + ", 1)", x.best(relic, n, 1), below);
    }

    private static void best() {
        RelicHouse x = Checks.with("sister 4;sister 8;sister 0;sister 15;relic 0 0 10;relic 1 0 10;relic 2 0 10;"
                + "relic 3 0 10;relic 3 0 1;");
        Checks.work(x, "give 0;give 1;give 2;give 3;");
        bestDue(x, 0, 0, 10, 1);
        bestDue(x, 0, 1, 21, 2);
        bestDue(x, 0, 2, 43, 4);
        bestDue(x, 1, 1, 10, 1);
        bestDue(x, 2, 6, 16, 1);
        bestDue(x, 3, 6, 10, 1);
        bestDue(x, 4, 6, 0, 1);
        Checks.due("nothing stays changed", x.relic(0, 3), 0);
        // it is best to wait for a lapse: 1 of 4 days brings 64, seen in time
        Checks.law(x, "lapses * 64");
        bestDue(x, 0, 1, 16, 1);
        bestDue(x, 3, 1, 60, 1);
        Checks.law(x, "day * 3");
        bestDue(x, 1, 6, 18, 1);
        Checks.law(x, "30 - day * 3 + day / 5 * 90");
        bestDue(x, 1, 4, 30, 1);
        bestDue(x, 1, 5, 99, 1);
        Checks.work(x, "again 9[day;];lapse 1;day;day;lapse 2;");
        Checks.law(x, "days + lapses * 2");
        // DAYS 6, lapsed once: 9 by no lapse, 4 and 4 by one
        bestDue(x, 1, 1, 17, 2);
        bestDue(x, 2, 1, 8, 1);
        Checks.law(x, "0");
        bestDue(x, 0, 6, 0, 1);
        Checks.law(x, "others");
        bestDue(x, 0, 6, 0, 1);
        Checks.noArgument("n 7", () -> x.best(0, 7, 0));
        Checks.noArgument("n -1", () -> x.best(0, -1, 0));
        Checks.noArgument("part 2", () -> x.best(0, 0, 2));
        Checks.noArgument("part -1", () -> x.best(0, 0, -1));
        Checks.noArgument("part 2 of one that is not KEPT", () -> x.best(4, 0, 2));
        Checks.noElement("best(5, 7, 2)", () -> x.best(5, 7, 2));
    }

    private static void without() {
        RelicHouse x = Checks.with("sister 4;sister 8;sister 0;sister 15;sister 1;");
        Checks.work(x, "die 0;");
        long[][] due = {{0, 2, 9, 16}, {0, 0, 1, 1}, {1, 12, 1, 4096}, {2, 12, 1, 1}, {3, 12, 1, 1L << 48},
            {4, 12, 129746337890625L, 1L << 48}, {0, 12, 531441, 1 << 24}};
        for (long[] d : due) {
            Checks.due("without(" + d[0] + ", " + d[1] + ", 0)", x.without((int) d[0], (int) d[1], 0), d[2]);
            Checks.due("without(" + d[0] + ", " + d[1] + ", 1)", x.without((int) d[0], (int) d[1], 1), d[3]);
        }
        Checks.noArgument("n 13", () -> x.without(0, 13, 0));
        Checks.noArgument("n -1", () -> x.without(0, -1, 0));
        Checks.noArgument("part 2", () -> x.without(0, 1, 2));
        Checks.noArgument("part -1", () -> x.without(0, 1, -1));
        Checks.noElement("without(5, 13, 2)", () -> x.without(5, 13, 2));
    }

    private static final String TAIL = "sister 0;".repeat(8)
            + "vow 0 1;vow 1 2;vow 2 3;vow 3 4;vow 4 5;vow 5 6;vow 6 7;vow 7 5;";

    private static void ring() {
        RelicHouse x = Checks.with(TAIL);
        Checks.due("ring(5)", x.ring(5), 3);
        Checks.due("ring(7)", x.ring(7), 3);
        Checks.due("ring(0): into a ring, not in it", x.ring(0), -1);
        Checks.house(x, TAIL + "vow 7 0;");
        Checks.due("a ring of all", x.ring(3), 8);
        Checks.house(x, "sister 0;sister 0;sister 0;vow 0 0;vow 1 2;");
        Checks.due("to herself", x.ring(0), 1);
        Checks.due("into nothing", x.ring(1), -1);
        Checks.due("no vow", x.ring(2), -1);
        Checks.noElement("ring(3)", () -> x.ring(3));
        Checks.noElement("ring(-1)", () -> x.ring(-1));
    }

    private static void follows() {
        RelicHouse x = Checks.with(TAIL);
        int[][] due = {{0, 0, 0}, {0, 1, 1}, {0, 7, 7}, {0, 8, 5}, {0, 9, 6}, {0, 10, 7}, {0, 11, 5}, {5, 3, 5},
            {0, 1000000, 7}, {7, 999999, 7}, {7, 1000000, 5}};
        for (int[] d : due) {
            Checks.due("follows(" + d[0] + ", " + d[1] + ")", x.follows(d[0], d[1]), d[2]);
        }
        RelicHouse y = Checks.with("sister 0;sister 0;vow 0 1;");
        Checks.due("her", y.follows(1, 0), 1);
        Checks.due("one vow", y.follows(0, 1), 1);
        Checks.due("two vows", y.follows(0, 2), -1);
        Checks.due("many vows", y.follows(0, 1000000), -1);
        Checks.noArgument("n -1", () -> y.follows(0, -1));
        Checks.noArgument("n 1000001", () -> y.follows(0, 1000001));
        Checks.noElement("follows(2, -1)", () -> y.follows(2, -1));
    }

    private static void temptedDue(int v, int w, int rests, int first, int together) {
        RelicHouse x = new RelicHouse();
        Checks.due("tempted(" + v + ", " + w + ", 0)", x.tempted(v, w, 0), rests);
        Checks.due("tempted(" + v + ", " + w + ", 1)", x.tempted(v, w, 1), first);
        Checks.due("tempted(" + v + ", " + w + ", 2)", x.tempted(v, w, 2), together);
    }

    private static void tempted() {
        temptedDue(3, 5, 1, 11, 0);
        temptedDue(5, 3, 2, 0, 10);
        temptedDue(5, 5, 2, 0, 10);
        temptedDue(0, 0, 2, 0, 0);
        temptedDue(0, 99, 1, 11, 0);
        temptedDue(99, 0, 2, 0, 198);
        RelicHouse x = new RelicHouse();
        Checks.noArgument("v -1", () -> x.tempted(-1, 0, 0));
        Checks.noArgument("v 100", () -> x.tempted(100, 0, 0));
        Checks.noArgument("w -1", () -> x.tempted(0, -1, 0));
        Checks.noArgument("w 100", () -> x.tempted(0, 100, 0));
        Checks.noArgument("what 3", () -> x.tempted(0, 0, 3));
        Checks.noArgument("what -1", () -> x.tempted(0, 0, -1));
    }

    private static void alms() {
        RelicHouse x = Checks.with(HOUSE);
        int[][] due = {{0, 15, 30, 11}, {1, 15, 30, 11}, {2, 15, 30, 6}, {3, 15, 30, 1}, {0, 15, 31, 12},
            {1, 15, 38, 19}, {1, 15, 39, 20}, {1, 15, 999, 20}, {0, 15, 3, 0}, {3, 15, 3, 0}, {3, 15, 4, 1},
            {0, 15, 0, 0}, {0, 1, 5, 5}, {0, 14, 99, 0}, {0, 0, 99, 0}, {0, 3, 9, 4}, {1, 3, 25, 13}};
        for (int[] d : due) {
            Checks.due("alms(" + d[0] + ", " + d[1] + ", " + d[2] + ")", x.alms(d[0], d[1], d[2]), d[3]);
        }
        Checks.work(x, "give 2;cure 2 1;");
        Checks.due("CURED or not", x.alms(1, 15, 38), 19);
        Checks.noArgument("bits of none", () -> x.alms(0, 16, 9));
        Checks.noArgument("bits below 0", () -> x.alms(0, -1, 9));
        Checks.noArgument("n -1", () -> x.alms(0, 1, -1));
        Checks.noArgument("n 1000", () -> x.alms(0, 1, 1000));
        Checks.noElement("alms(4, 16, -1)", () -> x.alms(4, 16, -1));
    }

    private static void strongest() {
        RelicHouse x = Checks.with(HOUSE);
        Checks.due("none is KEPT", x.strongest(0), -1);
        Checks.due("none is KEPT", x.strongest(1), -1);
        Checks.work(x, "give 1;give 2;give 3;");
        Checks.due("the strongest", x.strongest(0), 2);
        Checks.due("its POWER", x.strongest(1), 20);
        Checks.work(x, "give 0;");
        Checks.law(x, "30 - worth");
        Checks.due("the weaker ones of worth", x.strongest(0), 1);
        Checks.work(x, "back 1;back 3;");
        Checks.due("relic 0", x.strongest(0), 0);
        Checks.due("its POWER", x.strongest(1), 20);
        Checks.work(x, "back 0;give 1;give 3;");
        Checks.law(x, "7");
        Checks.due("of alike ones the first", x.strongest(0), 1);
        Checks.law(x, "0");
        Checks.due("a KEPT one, if all can nothing", x.strongest(0), 1);
        Checks.due("its POWER", x.strongest(1), 0);
        Checks.noArgument("strongest(2)", () -> x.strongest(2));
        Checks.noArgument("strongest(-1)", () -> x.strongest(-1));
    }

    private static void bareAndIdle() {
        RelicHouse x = Checks.with(HOUSE + "sister 3;");
        Checks.due("all ills", x.bare(), 63);
        Checks.due("all are idle", x.idle(), 15);
        Checks.work(x, "give 0;give 3;");
        Checks.due("ills", x.bare(), 63 - 2 - 1);
        Checks.due("idle", x.idle(), 2 + 8);
        Checks.work(x, "die 2;die 1;");
        Checks.due("ills then", x.bare(), 63 - 2);
        Checks.due("the dead are not idle", x.idle(), 8);
        RelicHouse y = Checks.with("sister 0;relic 0 5 1;");
        Checks.work(y, "give 0;");
        Checks.due("the last ill", y.bare(), 31);
    }

    private static void hopeless() {
        RelicHouse x = Checks.with(HOUSE);
        Checks.due("all", x.hopeless(0), 15);
        Checks.work(x, "give 0;give 1;");
        Checks.due("today", x.hopeless(0), 15);
        Checks.due("in 1 day", x.hopeless(1), 11);
        Checks.due("in 2 days", x.hopeless(2), 10);
        Checks.due("in 99 days", x.hopeless(99), 8);
        Checks.work(x, "day;cure 1 2;");
        Checks.due("not the CURED one", x.hopeless(0), 11);
        Checks.law(x, "30 - days * 10");
        Checks.due("today, by less and less", x.hopeless(0), 8);
        Checks.due("tomorrow", x.hopeless(1), 11);
        Checks.noArgument("hopeless(-1)", () -> x.hopeless(-1));
        Checks.noArgument("hopeless(100)", () -> x.hopeless(100));
    }

    private static void eldest() {
        RelicHouse x = Checks.with(HOUSE);
        Checks.due("none", x.eldest(0), -1);
        Checks.due("none", x.eldest(1), -1);
        Checks.work(x, "give 3;");
        Checks.due("DAYS 0", x.eldest(1), 0);
        Checks.work(x, "day;give 2;give 1;day;day;");
        Checks.due("the eldest", x.eldest(0), 3);
        Checks.due("its DAYS", x.eldest(1), 3);
        Checks.work(x, "lapse 2;");
        Checks.due("halved, of alike ones the first", x.eldest(0), 1);
        Checks.due("its DAYS", x.eldest(1), 2);
        Checks.work(x, "back 1;back 2;back 3;give 0;day;give 1;");
        Checks.due("relic 0", x.eldest(0), 0);
        Checks.noArgument("eldest(2)", () -> x.eldest(2));
        Checks.noArgument("eldest(-1)", () -> x.eldest(-1));
    }

    private static void needs() {
        RelicHouse x = Checks.with(HOUSE);
        int[] due = {0, 32, 6, 1, 0, 0};
        for (int ill = 0; ill < due.length; ill++) {
            Checks.due("needs(" + ill + ")", x.needs(ill), due[ill]);
        }
        Checks.work(x, "give 2;cure 2 1;");
        Checks.due("not of the CURED", x.needs(1), 12);
        Checks.noArgument("needs(6)", () -> x.needs(6));
        Checks.noArgument("needs(-1)", () -> x.needs(-1));
    }

    private static void strength() {
        RelicHouse x = Checks.with(HOUSE);
        Checks.due("nothing is KEPT", x.strength(0), 0);
        Checks.work(x, "give 0;give 1;give 2;");
        Checks.due("of two", x.strength(0), 15);
        Checks.due("of one", x.strength(1), 20);
        Checks.due("of none", x.strength(2), 0);
        Checks.noElement("strength(3)", () -> x.strength(3));
        Checks.noElement("strength(-1)", () -> x.strength(-1));
    }

    private static void weakest() {
        RelicHouse x = Checks.with(HOUSE);
        Checks.due("none", x.weakest(0), -1);
        Checks.due("none", x.weakest(1), -1);
        Checks.work(x, "give 0;give 2;lapse 1;lapse 0;");
        Checks.due("of alike ones the first", x.weakest(0), 0);
        Checks.due("how often", x.weakest(1), 1);
        Checks.work(x, "lapse 1;die 1;");
        Checks.due("the weakest, dead or not", x.weakest(0), 1);
        Checks.due("how often", x.weakest(1), 2);
        Checks.noArgument("weakest(2)", () -> x.weakest(2));
        Checks.noArgument("weakest(-1)", () -> x.weakest(-1));
    }

    private static long drawn(long seed) {
        return seed * 1103515245L + 12345L & 0xffffffffL;
    }

    private static void year() {
        // sister 1 keeps nothing and sister 2 is dead: neither of them draws, and without pilgrims there is no cure
        RelicHouse x = Checks.with("sister 9;sister 15;sister 15;relic 0 0 20;relic 2 0 20;");
        Checks.work(x, "give 0;give 1;die 2;");
        for (int seed : new int[] {0, 1, 77, -5, Integer.MAX_VALUE, Integer.MIN_VALUE}) {
            long s = seed & 0xffffffffL;
            int lapses = 0;
            int days = 0;
            for (int d = 0; d < 30; d++) {
                s = drawn(s);
                if ((s >> 16 & 32767) % 16 < 9) {
                    lapses++;
                    days = days / 2;
                }
                days++;
            }
            Checks.due("lapses by " + seed, x.year(seed, 30, 1), lapses);
            Checks.due("POWER by " + seed, x.year(seed, 30, 2), Math.max(0, 20 + days - 2 * lapses));
            Checks.due("nobody is CURED by " + seed, x.year(seed, 30, 0), 0);
        }
        Checks.due("nothing stays changed", x.told(3), 0);
        Checks.due("nothing stays changed", x.sister(0, 1), 0);
        Checks.noArgument("days 0", () -> x.year(1, 0, 0));
        Checks.noArgument("days 97", () -> x.year(1, 97, 0));
        Checks.noArgument("what 4", () -> x.year(1, 1, 4));
        Checks.noArgument("what -1", () -> x.year(1, 1, -1));
    }

    private static void yearCures() {
        RelicHouse x = Checks.with("sister 3;relic 0 0 9;relic 0 1 9;relic 0 0 9;pilgrim 0 9;pilgrim 1 12;pilgrim 0 40;");
        Checks.work(x, "give 0;give 1;");
        for (int seed = 1; seed <= 20; seed++) {
            long s = seed;
            int lapses = 0;
            int days = 0;
            int cured = 0;
            for (int d = 0; d < 40; d++) {
                s = drawn(s);
                if ((s >> 16 & 32767) % 16 < 3) {
                    lapses++;
                    days = days / 2;
                }
                s = drawn(s);
                long relic = (s >> 16 & 32767) % 3;
                s = drawn(s);
                long pilgrim = (s >> 16 & 32767) % 3;
                int power = 9 + days - 2 * lapses;
                if (relic == 0 && pilgrim == 0 && power >= 9) {
                    cured |= 1;
                } else if (relic == 1 && pilgrim == 1 && power >= 12) {
                    cured |= 2;
                } else if (relic == 0 && pilgrim == 2 && power >= 40) {
                    cured |= 4;
                }
                days++;
            }
            Checks.due("who by " + seed, x.year(seed, 40, 3), cured);
            Checks.due("how many by " + seed, x.year(seed, 40, 0), Integer.bitCount(cured));
            Checks.due("lapses by " + seed, x.year(seed, 40, 1), lapses);
        }
        RelicHouse y = Checks.with("sister 0;relic 0 0 9;pilgrim 0 9;pilgrim 0 9;");
        Checks.work(y, "give 0;cure 0 0;");
        Checks.due("used at first", y.year(5, 1, 0), 0);
        Checks.due("CURED ahead of it", y.year(5, 1, 3), 1);
        Checks.due("in it", y.year(5, 96, 0), 1);
        Checks.due("then", y.year(5, 96, 3), 3);
        Checks.law(y, "day");
        Checks.due("by the LAW", y.year(5, 96, 2), 96);
        Checks.work(y, "again 40[day;day;day;day;];");
        Checks.work(y, "again 40[day;day;day;day;];");
        Checks.work(y, "again 40[day;day;day;day;];");
        Checks.law(y, "day - 500");
        Checks.due("beyond DAY 500", y.year(5, 96, 2), 480 + 96 - 500);
        RelicHouse z = Checks.with("sister 0;relic 0 0 9;pilgrim 0 9;");
        Checks.work(z, "give 0;");
        Checks.due("one relic and one pilgrim", z.year(5, 1, 0), 1);
    }

    private static void span() {
        RelicHouse x = Checks.with("sister 5;sister 9;relic 0 0 9;relic 1 1 9;pilgrim 0 9;pilgrim 1 14;pilgrim 1 20;");
        Checks.work(x, "give 0;give 1;");
        for (int seed : new int[] {5, -3, Integer.MAX_VALUE - 4}) {
            for (int many : new int[] {1, 7, 20}) {
                int fewest = 99;
                int most = 0;
                int times = 0;
                for (int i = 0; i < many; i++) {
                    fewest = Math.min(fewest, x.year(seed + i, 9, 0));
                    most = Math.max(most, x.year(seed + i, 9, 0));
                    times += x.year(seed + i, 9, 3) & 1;
                }
                Checks.due("span 0 by " + seed + ", " + many, x.span(seed, many, 9, 0, 0), fewest);
                Checks.due("span 1 by " + seed + ", " + many, x.span(seed, many, 9, 1, 0), most);
                Checks.due("span 2 by " + seed + ", " + many, x.span(seed, many, 9, 2, 0), times);
            }
        }
        Checks.due("by 20 seeds some differ", x.span(5, 20, 9, 0, 0) < x.span(5, 20, 9, 1, 0), true);
        Checks.noArgument("many 0", () -> x.span(1, 0, 1, 0, 0));
        Checks.noArgument("many 21", () -> x.span(1, 21, 1, 0, 0));
        Checks.noArgument("days 0", () -> x.span(1, 1, 0, 0, 0));
        Checks.noArgument("days 97", () -> x.span(1, 1, 97, 0, 0));
        Checks.noArgument("what 3", () -> x.span(1, 1, 1, 3, 0));
        Checks.noArgument("what -1", () -> x.span(1, 1, 1, -1, 0));
        Checks.noArgument("pilgrim 3", () -> x.span(1, 1, 1, 2, 3));
        Checks.noArgument("pilgrim 3, for 0, too", () -> x.span(1, 1, 1, 0, 3));
        Checks.noArgument("pilgrim -1, for 1, too", () -> x.span(1, 1, 1, 1, -1));
        // those who were CURED ahead of it count by what 2 alone
        Checks.work(x, "cure 0 0;");
        Checks.due("CURED then", x.span(5, 6, 1, 2, 0), 6);
        Checks.due("in it", x.span(5, 6, 1, 1, 0), 0);
    }

    private static void status() {
        RelicHouse x = new RelicHouse();
        Checks.due("status(0)", x.status(0), 0);
        Checks.due("status(1)", x.status(1), 0);
        Checks.noElement("sister", () -> x.sister(0, 9));
        Checks.noElement("best", () -> x.best(0, 9, 9));
        Checks.noElement("can", () -> x.can(0, 0) ? 1 : 0);
        Checks.noArgument("house", () -> x.house(1));
        Checks.noArgument("span", () -> x.span(0, 1, 1, 0, 0));
        Checks.due("status(0) then", x.status(0), 3);
        Checks.due("status(1) then", x.status(1), 2);
        x.law(0);
        x.undo();
        x.status(7);
        Checks.due("what answers is not refused", x.status(1), 2);
    }
}
