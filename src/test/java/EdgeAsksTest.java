/** Promises 9 to 12 and 14 to 26: a test of its own for each boundary of what is asked. */
final class EdgeAsksTest {
    private static final String HOUSE = "sister 4;sister 8;sister 0;relic 0 1 10;relic 0 2 5;relic 1 1 20;"
            + "relic 2 0 7;pilgrim 1 12;pilgrim 1 20;pilgrim 2 6;pilgrim 3 1;";

    private EdgeAsksTest() {
    }

    public static void main(String[] args) {
        told();
        toldFull();
        sister();
        sisterLapses();
        relic();
        pilgrim();
        can();
        when();
        whenBeyond();
        ahead();
        match();
        matchFull();
        lapsed();
        lapsedFull();
        ask();
        askFull();
        best();
        bestEdges();
        without();
        ring();
        follows();
        tempted();
        alms();
        almsFull();
        Checks.end("EdgeAsksTest");
    }

    private static RelicHouse after(String house, String work) {
        RelicHouse x = Checks.with(house);
        if (Checks.work(x, work) < 0) {
            throw new AssertionError("the test's own work is faulty: " + work);
        }
        return x;
    }

    /** Every relic of a house of ten is given, and so on: more than a text of 150 bytes can hold. */
    private static void giveAll(RelicHouse x) {
        for (int r = 0; r < x.told(1); r++) {
            Checks.work(x, "give " + r + ";");
        }
    }

    private static void told() {
        Checks.promise(9, "0 at first");
        RelicHouse x = Checks.with(HOUSE);
        int[] due = {3, 4, 4, 0, 7, 0, 0, 0, 0, 0, 0};
        for (int what = 0; what <= 10; what++) {
            Checks.due("told(" + what + ")", x.told(what), due[what]);
        }
        Checks.promise(9, "another what");
        Checks.noArgument("told(-1)", () -> x.told(-1));
        Checks.noArgument("told(11)", () -> x.told(11));
        Checks.due("status(1)", x.status(1), 2);
        Checks.promise(9, "STEPS REFUSED by the latest WORK (0 ahead of any, behind undo(), restore())");
        Checks.due("ahead of any", x.told(9), 0);
        Checks.work(x, "back 0;back 0;");
        Checks.due("by the latest", x.told(9), 2);
        Checks.work(x, "back 0;");
        Checks.due("by the latest alone", x.told(9), 1);
        x.image();
        Checks.due("image() leaves it", x.told(9), 1);
        Checks.law(x, "1");
        Checks.seen(x, "");
        Checks.due("a LAW and SEEN leave it", x.told(9), 1);
        x.restore();
        Checks.due("behind restore()", x.told(9), 0);
        Checks.work(x, "back 0;");
        x.undo();
        Checks.due("behind undo()", x.told(9), 0);
        Checks.work(x, "back 0;");
        Checks.house(x, HOUSE);
        Checks.due("ahead of any in a new HOUSE", x.told(9), 0);
    }

    private static void toldFull() {
        Checks.promise(9, "as many as there may be");
        RelicHouse x = Checks.with("sister 0;".repeat(8) + "relic 0 0 30;".repeat(10) + "pilgrim 0 1;".repeat(8));
        giveAll(x);
        Checks.law(x, "99");
        Checks.work(x, "cure 0 0;cure 1 1;cure 2 2;cure 3 3;cure 4 4;cure 5 5;cure 8 6;cure 9 7;");
        Checks.seen(x, "0 99;1 99;2 99;3 99;4 99;5 99;6 99;7 99;8 99;9 99;");
        int[] due = {8, 10, 8, 0, 255, 1023, 255, 1023 - 64 - 128, 10, 0, 990};
        for (int what = 0; what <= 10; what++) {
            Checks.due("told(" + what + ")", x.told(what), due[what]);
        }
    }

    private static void sister() {
        Checks.promise(10, "no such SISTER");
        RelicHouse x = after(HOUSE, "give 1;lapse 0;");
        Checks.due("the first", x.sister(0, 0), 4);
        Checks.due("the last", x.sister(2, 0), 0);
        Checks.noElement("one below", () -> x.sister(-1, 0));
        Checks.noElement("one above", () -> x.sister(3, 0));
        Checks.due("status(0)", x.status(0), 2);
        Checks.promise(10, "another what");
        Checks.due("the least what", x.sister(1, 0), 8);
        Checks.due("the largest what", x.sister(1, 4), -1);
        Checks.noArgument("one below", () -> x.sister(0, -1));
        Checks.noArgument("one above", () -> x.sister(0, 5));
        Checks.noElement("both are wrong", () -> x.sister(3, 5));
        Checks.due("status(0)", x.status(0), 3);
        Checks.due("status(1)", x.status(1), 2);
        Checks.promise(10, "RELICS of hers, such as are KEPT (bits)");
        RelicHouse y = Checks.with("sister 0;sister 0;sister 0;relic 0 0 1;" + "relic 1 0 1;".repeat(9));
        Checks.due("none of hers", y.sister(2, 2), 0);
        Checks.due("one", y.sister(0, 2), 1);
        Checks.due("nine", y.sister(1, 2), 1022);
        Checks.due("none is KEPT yet", y.sister(1, 3), 0);
        giveAll(y);
        Checks.due("all are KEPT", y.sister(1, 3), 1022);
        Checks.due("one is KEPT", y.sister(0, 3), 1);
        Checks.work(y, "die 1;");
        Checks.due("none is KEPT any more", y.sister(1, 3), 0);
        Checks.due("hers all the same", y.sister(1, 2), 1022);
    }

    private static void sisterLapses() {
        Checks.promise(10, "lapses by now, of each SISTER her own");
        StringBuilder house = new StringBuilder("sister 0;".repeat(8));
        for (int s = 0; s < 8; s++) {
            house.append("relic ").append(s).append(" 0 30;");
        }
        RelicHouse x = Checks.with(house.toString());
        for (int s = 0; s < 8; s++) {
            Checks.work(x, "give " + s + ";again " + (s + 1) + "[lapse " + s + ";];");
        }
        for (int s = 0; s < 8; s++) {
            Checks.due("lapses of " + s, x.sister(s, 1), s + 1);
            Checks.due("POWER by them", x.relic(s, 4), 30 - 2 * s - 2);
            Checks.due("POWER by one more", x.ahead(s, 0, 1), 30 - 2 * s - 4);
            Checks.due("BEST by them", x.best(s, 0, 0), 30 - 2 * s - 2);
        }
    }

    private static void relic() {
        Checks.promise(11, "no such RELIC; another what");
        RelicHouse x = after(HOUSE, "give 0;");
        Checks.due("the first", x.relic(0, 2), 10);
        Checks.due("the last", x.relic(3, 2), 7);
        Checks.noElement("one below", () -> x.relic(-1, 0));
        Checks.noElement("one above", () -> x.relic(4, 0));
        Checks.noArgument("what one below", () -> x.relic(0, -1));
        Checks.noArgument("what one above", () -> x.relic(0, 6));
        Checks.noElement("both are wrong", () -> x.relic(4, 6));
        Checks.due("status(0)", x.status(0), 3);
        Checks.due("status(1)", x.status(1), 2);
        Checks.promise(11, "DAYS (NONE: not KEPT)");
        Checks.due("just given", x.relic(0, 3), 0);
        Checks.due("not KEPT", x.relic(1, 3), -1);
        Checks.work(x, "day;back 0;");
        Checks.due("not KEPT any more", x.relic(0, 3), -1);
        Checks.promise(11, "PILGRIMS not CURED that it CAN (bits)");
        RelicHouse y = after("sister 0;relic 0 2 10;" + "pilgrim 2 10;".repeat(6) + "pilgrim 2 11;pilgrim 1 1;", "give 0;");
        Checks.due("POWER just their NEED", y.relic(0, 5), 63);
        Checks.work(y, "cure 0 5;");
        Checks.due("not the CURED one, but those it CAN though used", y.relic(0, 5), 31);
        Checks.work(y, "day;");
        Checks.due("one more by a day", y.relic(0, 5), 31 + 64);
        Checks.work(y, "back 0;");
        Checks.due("not KEPT", y.relic(0, 5), 0);
    }

    private static void pilgrim() {
        Checks.promise(12, "no such PILGRIM; another what");
        RelicHouse x = after(HOUSE, "give 0;give 2;");
        Checks.due("the first", x.pilgrim(0, 1), 12);
        Checks.due("the last", x.pilgrim(3, 1), 1);
        Checks.noElement("one below", () -> x.pilgrim(-1, 0));
        Checks.noElement("one above", () -> x.pilgrim(4, 0));
        Checks.noArgument("what one below", () -> x.pilgrim(0, -1));
        Checks.noArgument("what one above", () -> x.pilgrim(0, 4));
        Checks.noElement("both are wrong", () -> x.pilgrim(4, 4));
        Checks.due("status(0)", x.status(0), 3);
        Checks.due("status(1)", x.status(1), 2);
        Checks.promise(12, "the RELIC he was CURED by (NONE)");
        Checks.due("nobody is CURED", x.pilgrim(1, 2), -1);
        Checks.work(x, "cure 2 1;back 2;day;");
        Checks.due("by 2, KEPT or not", x.pilgrim(1, 2), 2);
        RelicHouse y = after("sister 0;relic 0 0 9;pilgrim 0 9;", "give 0;cure 0 0;");
        Checks.due("by 0", y.pilgrim(0, 2), 0);
        y.undo();
        Checks.due("by none behind undo()", y.pilgrim(0, 2), -1);
        Checks.promise(12, "RELICS that CAN (bits)");
        RelicHouse z = Checks.with("sister 0;relic 0 1 30;relic 0 0 8;" + "relic 0 0 9;".repeat(8) + "pilgrim 0 9;");
        Checks.due("none is KEPT", z.pilgrim(0, 3), 0);
        giveAll(z);
        Checks.due("POWER just NEED", z.pilgrim(0, 3), 1020);
        Checks.work(z, "cure 9 0;");
        Checks.due("CURED, and it is used", z.pilgrim(0, 3), 1020);
    }

    private static void can() {
        Checks.promise(14, "whether cure could be done now");
        RelicHouse x = after(HOUSE, "give 0;give 1;give 2;");
        Checks.due("POWER just NEED", x.can(2, 1), true);
        Checks.due("POWER one less", x.can(1, 2), false);
        Checks.due("another ill", x.can(2, 2), false);
        Checks.due("not KEPT", x.can(3, 3), false);
        Checks.work(x, "day;cure 2 1;");
        Checks.due("it is used", x.can(2, 0), false);
        Checks.due("he is CURED", x.can(0, 1), false);
        Checks.due("one more by a day", x.can(1, 2), true);
        Checks.work(x, "day;");
        Checks.due("used no more", x.can(2, 0), true);
        Checks.due("still CURED", x.can(2, 1), false);
        Checks.due("asked, nothing stays changed", x.told(6), 2);
        Checks.promise(14, "no such RELIC, PILGRIM");
        Checks.noElement("RELIC one below", () -> x.can(-1, 0) ? 1 : 0);
        Checks.noElement("RELIC one above", () -> x.can(4, 0) ? 1 : 0);
        Checks.noElement("PILGRIM one below", () -> x.can(0, -1) ? 1 : 0);
        Checks.noElement("PILGRIM one above", () -> x.can(0, 4) ? 1 : 0);
        Checks.due("status(0)", x.status(0), 4);
        Checks.due("the last of both", x.can(3, 3), false);
    }

    private static void when() {
        Checks.promise(15, "WHEN (0: now); NONE");
        RelicHouse x = after("sister 0;relic 0 0 10;relic 0 0 10;relic 0 1 10;pilgrim 0 10;pilgrim 0 11;pilgrim 0 99;", "give 0;give 2;");
        Checks.due("now", x.when(0, 0), 0);
        Checks.due("in 1 day", x.when(0, 1), 1);
        Checks.due("in 89 days", x.when(0, 2), 89);
        Checks.due("not KEPT", x.when(1, 0), -1);
        Checks.due("another ill", x.when(2, 0), -1);
        Checks.work(x, "cure 0 0;");
        Checks.due("used or not, CURED or not", x.when(0, 0), 0);
        Checks.promise(15, "in how many days (of 200)");
        RelicHouse y = after("sister 0;relic 0 0 1;pilgrim 0 99;", "give 0;");
        Checks.law(y, "days-100");
        Checks.due("in 199 days", y.when(0, 0), 199);
        Checks.law(y, "days-101");
        Checks.due("in 200 days", y.when(0, 0), 200);
        Checks.law(y, "days-102");
        Checks.due("not in 201 days", y.when(0, 0), -1);
        Checks.promise(15, "the first of the days on which it CAN");
        Checks.law(y, "99-days*50");
        Checks.due("today alone", y.when(0, 0), 0);
        Checks.law(y, "99*(days%3)*(2-days%3)");
        Checks.due("tomorrow, and every third day", y.when(0, 0), 1);
        Checks.due("asked, nothing stays changed", y.told(3), 0);
    }

    private static void whenBeyond() {
        Checks.promise(15, "DAYS go by as by day (beyond 500, too)");
        RelicHouse x = Checks.with("sister 0;relic 0 0 1;pilgrim 0 99;");
        for (int i = 0; i < 12; i++) {
            Checks.work(x, "again 40[day;];");
        }
        Checks.work(x, "again 20[day;];give 0;");
        Checks.due("DAY 500", x.told(3), 500);
        Checks.law(x, "day-402");
        Checks.due("on DAY 501", x.when(0, 0), 1);
        Checks.law(x, "day-601");
        Checks.due("on DAY 700", x.when(0, 0), 200);
        Checks.law(x, "days*99");
        Checks.due("its DAYS, too", x.when(0, 0), 1);
        Checks.law(x, "day-500");
        Checks.promise(16, "DAYS go by as by day (beyond 500, too)");
        Checks.due("ahead by 99", x.ahead(0, 99, 0), 99);
        Checks.due("ahead by 98", x.ahead(0, 98, 1), 98);
        Checks.promise(21, "DAYS go by as by day (beyond 500, too)");
        Checks.due("best by 6", x.best(0, 6, 0), 6);
        Checks.promise(29, "DAYS go by as by day (beyond 500, too)");
        Checks.due("hopeless(98)", x.hopeless(98), 1);
        Checks.due("hopeless(99)", x.hopeless(99), 0);
        Checks.promise(35, "DAYS go by as by day (beyond 500, too)");
        Checks.due("year of 96 days", x.year(1, 96, 2), 96);
        Checks.due("asked, nothing stays changed", x.told(3), 500);
    }

    private static void ahead() {
        Checks.promise(16, "in n days (0 to 99)");
        RelicHouse x = after(HOUSE, "give 0;day;day;day;");
        Checks.due("now", x.ahead(0, 0, 0), 13);
        Checks.due("in 1 day", x.ahead(0, 1, 0), 14);
        Checks.due("in 85 days", x.ahead(0, 85, 0), 98);
        Checks.due("in 99 days: 99 at most", x.ahead(0, 99, 0), 99);
        Checks.law(x, "days-3");
        Checks.due("all 99 days", x.ahead(0, 99, 0), 99);
        Checks.due("all 98 days", x.ahead(0, 98, 0), 98);
        Checks.noArgument("one below", () -> x.ahead(0, -1, 0));
        Checks.noArgument("one above", () -> x.ahead(0, 100, 0));
        Checks.noArgument("what one below", () -> x.ahead(0, 0, -1));
        Checks.noArgument("what one above", () -> x.ahead(0, 0, 2));
        Checks.noElement("RELIC one below, all wrong", () -> x.ahead(-1, 100, 2));
        Checks.noElement("RELIC one above, all wrong", () -> x.ahead(4, -1, -1));
        Checks.due("status(0)", x.status(0), 2);
        Checks.due("status(1)", x.status(1), 4);
        Checks.promise(16, "if its SISTER lapsed now, ahead of these");
        Checks.law(x, "days+lapses*20");
        Checks.due("0 days", x.ahead(0, 0, 1), 21);
        Checks.due("5 days: halved ahead of them", x.ahead(0, 5, 1), 26);
        Checks.due("nothing stays changed", x.sister(0, 1), 0);
        Checks.due("DAYS stay", x.relic(0, 3), 3);
        Checks.promise(16, "it is REFUSED: as what 0");
        Checks.due("not KEPT", x.ahead(2, 5, 1), 0);
        Checks.work(x, "die 0;");
        Checks.due("she is dead", x.ahead(0, 5, 1), 0);
    }

    private static void matchDue(RelicHouse x, int... due) {
        int many = 0;
        for (int relic : due) {
            many += relic == -1 ? 0 : 1;
        }
        Checks.due("match()", x.match(), many);
        for (int p = 0; p < due.length; p++) {
            Checks.due("matched(" + p + ")", x.matched(p), due[p]);
        }
    }

    private static void match() {
        Checks.promise(17, "nobody to give to, nothing to give");
        matchDue(new RelicHouse());
        matchDue(after("sister 0;relic 0 0 9;", "give 0;"));
        matchDue(Checks.with("pilgrim 0 9;"), -1);
        matchDue(Checks.with("sister 0;relic 0 0 9;pilgrim 0 9;"), -1);
        Checks.promise(17, "PILGRIMS that are not CURED");
        matchDue(after("sister 0;relic 0 0 9;relic 0 0 9;pilgrim 0 9;pilgrim 0 9;", "give 0;give 1;cure 0 0;day;"), -1, 0);
        Checks.promise(17, "RELICS that are not used this DAY");
        matchDue(after("sister 0;relic 0 0 9;pilgrim 0 9;pilgrim 0 9;", "give 0;cure 0 0;"), -1, -1);
        Checks.promise(17, "unlike RELICS that CAN: POWER just NEED, one less");
        matchDue(after("sister 0;relic 0 0 9;relic 0 0 9;pilgrim 0 9;pilgrim 0 10;", "give 0;give 1;"), 0, -1);
        matchDue(after("sister 0;relic 0 1 9;relic 0 0 9;pilgrim 0 1;pilgrim 2 1;", "give 0;give 1;"), 1, -1);
        Checks.promise(18, "of alike ways the first (the least RELIC, none last)");
        matchDue(after("sister 0;relic 0 0 9;relic 0 0 9;pilgrim 0 9;", "give 0;give 1;"), 0);
        matchDue(after("sister 0;relic 0 0 9;pilgrim 0 9;pilgrim 0 9;", "give 0;"), 0, -1);
        Checks.promise(17, "that by which most are given, though the first has none of the least");
        matchDue(after("sister 0;relic 0 0 9;relic 0 0 8;pilgrim 0 8;pilgrim 0 9;", "give 0;give 1;"), 1, 0);
        RelicHouse x = Checks.with(HOUSE);
        Checks.promise(18, "no such PILGRIM");
        Checks.noElement("one below", () -> x.matched(-1));
        Checks.noElement("one above", () -> x.matched(4));
        Checks.due("status(0)", x.status(0), 2);
        Checks.due("the last", x.matched(3), -1);
    }

    private static void matchFull() {
        Checks.promise(17, "as many as there may be");
        RelicHouse x = Checks.with("sister 0;" + "relic 0 0 9;".repeat(10) + "pilgrim 0 9;".repeat(8));
        giveAll(x);
        matchDue(x, 0, 1, 2, 3, 4, 5, 6, 7);
        Checks.work(x, "back 0;back 3;");
        matchDue(x, 1, 2, 4, 5, 6, 7, 8, 9);
        Checks.work(x, "back 1;");
        matchDue(x, 2, 4, 5, 6, 7, 8, 9, -1);
        // each can be cured by fewer and fewer: all must be pushed to the very end
        StringBuilder stairs = new StringBuilder("sister 0;");
        for (int r = 0; r < 8; r++) {
            stairs.append("relic 0 0 ").append(20 - r).append(';');
        }
        for (int p = 0; p < 8; p++) {
            stairs.append("pilgrim 0 ").append(13 + p).append(';');
        }
        RelicHouse y = Checks.with(stairs.toString());
        giveAll(y);
        matchDue(y, 7, 6, 5, 4, 3, 2, 1, 0);
        Checks.promise(17, "nothing of an earlier HOUSE");
        RelicHouse z = after("sister 0;relic 0 0 9;relic 0 0 8;pilgrim 0 8;pilgrim 0 9;", "give 0;give 1;");
        matchDue(z, 1, 0);
        Checks.house(z, "sister 0;relic 0 0 9;relic 0 0 8;pilgrim 0 8;");
        Checks.work(z, "give 0;give 1;");
        matchDue(z, 0);
    }

    private static void lapsedDue(RelicHouse x, String seen, int sets, int first, int sure) {
        Checks.seen(x, seen);
        Checks.due("lapsed(0) by '" + seen + "'", x.lapsed(0), sets);
        Checks.due("lapsed(1) by '" + seen + "'", x.lapsed(1), first);
        Checks.due("lapsed(2) by '" + seen + "'", x.lapsed(2), sure);
    }

    /** POWERS 12, 12 and 0, as the third is not KEPT; 9, had she lapsed. */
    private static RelicHouse three() {
        return after("sister 0;sister 0;sister 0;relic 0 0 10;relic 1 0 10;relic 2 0 10;", "give 0;give 1;day;day;");
    }

    private static void lapsed() {
        Checks.promise(19, "nothing is SEEN: every set of those who can lapse");
        lapsedDue(three(), "", 4, 0, 0);
        lapsedDue(Checks.with(HOUSE), "", 1, 0, 0);
        Checks.promise(19, "living SISTERS who have a KEPT RELIC");
        RelicHouse x = three();
        Checks.work(x, "die 0;");
        lapsedDue(x, "", 2, 0, 0);
        lapsedDue(x, "0 0;", 2, 0, 0);
        lapsedDue(x, "0 12;", 0, -1, 0);
        Checks.work(x, "back 1;");
        lapsedDue(x, "", 1, 0, 0);
        Checks.promise(19, "0, if it is not KEPT");
        lapsedDue(three(), "2 0;", 4, 0, 0);
        lapsedDue(three(), "2 1;", 0, -1, 0);
        Checks.promise(19, "the first (NONE), SURE (0 without)");
        lapsedDue(three(), "0 11;", 0, -1, 0);
        lapsedDue(three(), "0 9;1 10;", 0, -1, 0);
        lapsedDue(three(), "0 9;", 2, 1, 1);
        lapsedDue(three(), "1 9;", 2, 2, 2);
        lapsedDue(three(), "0 12;1 9;", 1, 2, 2);
        lapsedDue(three(), "0 9;1 9;2 0;", 1, 3, 3);
        Checks.promise(19, "POWER by bounds: what a lapse does not show");
        RelicHouse y = three();
        Checks.law(y, "0-lapses");
        lapsedDue(y, "0 0;1 0;", 4, 0, 0);
        Checks.law(y, "99+lapses");
        lapsedDue(y, "0 99;1 99;", 4, 0, 0);
        Checks.promise(19, "as by lapse: DAYS are halved, lapses one more");
        RelicHouse z = three();
        Checks.work(z, "day;lapse 0;lapse 0;");
        Checks.law(z, "days*10+lapses");
        lapsedDue(z, "0 2;", 2, 0, 0);
        lapsedDue(z, "0 3;", 2, 1, 1);
        lapsedDue(z, "1 30;", 2, 0, 0);
        lapsedDue(z, "1 11;", 2, 2, 2);
        Checks.due("nothing stays changed", z.sister(1, 1), 0);
        Checks.promise(19, "another what");
        Checks.noArgument("one below", () -> z.lapsed(-1));
        Checks.noArgument("one above", () -> z.lapsed(3));
        Checks.due("status(1)", z.status(1), 2);
    }

    private static void lapsedFull() {
        Checks.promise(19, "as many sets as there may be");
        StringBuilder house = new StringBuilder("sister 0;".repeat(8));
        for (int s = 0; s < 8; s++) {
            house.append("relic ").append(s).append(" 0 10;");
        }
        RelicHouse x = Checks.with(house.toString());
        giveAll(x);
        lapsedDue(x, "", 256, 0, 0);
        lapsedDue(x, "7 8;", 128, 128, 128);
        lapsedDue(x, "0 8;1 8;2 8;3 8;4 8;5 8;6 8;7 8;", 1, 255, 255);
        lapsedDue(x, "0 10;1 10;2 10;3 10;4 10;5 10;6 10;7 10;", 1, 0, 0);
        lapsedDue(x, "0 8;1 8;2 8;3 8;4 8;5 8;6 8;7 9;", 0, -1, 0);
    }

    private static void askDue(RelicHouse x, String seen, int relic, int left) {
        Checks.seen(x, seen);
        Checks.due("ask(0) by '" + seen + "'", x.ask(0), relic);
        Checks.due("ask(1) by '" + seen + "'", x.ask(1), left);
    }

    private static void ask() {
        Checks.promise(20, "NONE: all are in lines");
        askDue(new RelicHouse(), "", -1, -1);
        askDue(three(), "0 12;1 12;2 0;", -1, -1);
        askDue(three(), "0 1;1 1;2 1;", -1, -1);
        askDue(three(), "0 12;1 12;", 2, 1);
        Checks.promise(20, "no sets are left at all");
        askDue(three(), "0 1;", 1, 0);
        askDue(three(), "2 1;", 0, 0);
        Checks.promise(20, "fewest at the worst, of these the first");
        askDue(three(), "", 0, 2);
        askDue(three(), "0 12;", 1, 1);
        askDue(three(), "1 9;", 0, 1);
        askDue(Checks.with(HOUSE), "", 0, 1);
        Checks.promise(20, "one that tells nothing, behind one that tells");
        RelicHouse x = after("sister 0;sister 0;relic 0 0 10;relic 1 0 10;", "give 1;");
        askDue(x, "", 1, 1);
        askDue(x, "1 8;", 0, 1);
        Checks.promise(20, "POWER alike with and without a lapse tells nothing");
        RelicHouse y = three();
        Checks.law(y, "10+lapses*sister");
        askDue(y, "", 1, 2);
        askDue(y, "1 10;", 0, 2);
        Checks.promise(20, "what it can today, not tomorrow");
        Checks.law(y, "day+days/9");
        askDue(y, "", 0, 4);
        Checks.law(y, "1-days%2");
        askDue(y, "", 0, 2);
        Checks.promise(20, "of one who is sure not to have lapsed all sets are left, by any other RELIC of hers");
        RelicHouse z = after("sister 0;sister 0;relic 0 0 10;relic 1 0 10;relic 1 0 10;", "give 0;give 1;give 2;");
        Checks.law(z, "10+lapses*sister");
        askDue(z, "1 10;", 0, 2);
        askDue(z, "1 11;", 0, 2);
        askDue(z, "0 10;1 10;", 2, 2);
        Checks.promise(20, "another what");
        Checks.noArgument("one below", () -> y.ask(-1));
        Checks.noArgument("one above", () -> y.ask(2));
        Checks.due("status(1)", y.status(1), 2);
    }

    private static void askFull() {
        Checks.promise(20, "as many as there may be");
        StringBuilder house = new StringBuilder("sister 0;".repeat(8));
        for (int r = 0; r < 10; r++) {
            house.append("relic ").append(9 - r > 7 ? 7 : 9 - r).append(" 0 10;");
        }
        RelicHouse x = Checks.with(house.toString());
        giveAll(x);
        askDue(x, "", 0, 128);
        askDue(x, "0 8;", 3, 64);
        askDue(x, "0 8;3 10;", 4, 32);
        askDue(x, "3 8;4 8;5 8;6 8;7 8;8 8;9 8;", 0, 1);
        askDue(x, "2 8;3 8;4 8;5 8;6 8;7 8;8 8;9 8;", 0, 1);
        askDue(x, "0 8;1 8;2 8;3 8;4 8;5 8;6 8;7 8;8 8;", 9, 1);
    }

    private static void bestDue(RelicHouse x, int relic, int n, long above, long below) {
        Checks.due("best(" + relic + ", " + n + ", 0)", x.best(relic, n, 0), above);
        Checks.due("best(" + relic + ", " + n + ", 1)", x.best(relic, n, 1), below);
    }

    private static void best() {
        Checks.promise(21, "BEST by n (0 to 6)");
        RelicHouse x = after("sister 1;sister 15;sister 0;relic 0 0 10;relic 1 0 10;relic 2 0 10;relic 2 0 10;",
                "give 0;give 1;give 2;");
        bestDue(x, 0, 0, 10, 1);
        // by a lapse of DAYS 0: 10 and 1 less 2; without: 11: 174 of 16, in least terms
        bestDue(x, 0, 1, 87, 8);
        bestDue(x, 1, 6, 10, 1);
        bestDue(x, 2, 6, 16, 1);
        bestDue(x, 2, 1, 11, 1);
        Checks.noArgument("n one below", () -> x.best(0, -1, 0));
        Checks.noArgument("n one above", () -> x.best(0, 7, 0));
        Checks.noArgument("part one below", () -> x.best(0, 0, -1));
        Checks.noArgument("part one above", () -> x.best(0, 0, 2));
        Checks.noArgument("n wrong of one that is not KEPT", () -> x.best(3, 7, 0));
        Checks.noElement("RELIC one below, all wrong", () -> x.best(-1, 7, 2));
        Checks.noElement("RELIC one above, all wrong", () -> x.best(4, -1, -1));
        Checks.due("status(0)", x.status(0), 2);
        Checks.due("status(1)", x.status(1), 5);
        Checks.promise(21, "0 by 1: it is not KEPT");
        bestDue(x, 3, 0, 0, 1);
        bestDue(x, 3, 6, 0, 1);
        Checks.work(x, "die 0;");
        bestDue(x, 0, 6, 0, 1);
    }

    private static void bestEdges() {
        RelicHouse x = after("sister 1;sister 15;sister 8;relic 0 0 10;relic 1 0 10;relic 2 0 10;", "give 0;give 1;give 2;");
        Checks.promise(21, "worth 0 on the mean, in least terms");
        Checks.law(x, "0-5");
        bestDue(x, 0, 6, 0, 1);
        Checks.promise(21, "worth 99 on the mean, in least terms");
        Checks.law(x, "999");
        bestDue(x, 1, 6, 99, 1);
        Checks.promise(21, "the longest of all fractions: no day without a lapse");
        Checks.law(x, "most[0,1-lapses]*day/6");
        bestDue(x, 0, 6, 15L * 15 * 15 * 15 * 15 * 15, 1L << 24);
        bestDue(x, 1, 6, 1, 1L << 24);
        bestDue(x, 2, 6, 1, 64);
        bestDue(x, 0, 5, 0, 1);
        Checks.promise(21, "whichever one likes, by what came till then");
        // half of all days bring a lapse: behind one it is best to stop at once
        Checks.law(x, "lapses%2*64");
        bestDue(x, 2, 1, 32, 1);
        bestDue(x, 2, 2, 48, 1);
        bestDue(x, 2, 3, 56, 1);
        Checks.promise(21, "first lapses, then the day goes by");
        RelicHouse y = after("sister 8;relic 0 0 10;", "give 0;day;day;day;");
        Checks.law(y, "days*8");
        // 4 DAYS without a lapse, 3 / 2 + 1 = 2 with it: 24 on the mean, as much as at once
        bestDue(y, 0, 1, 24, 1);
        Checks.law(y, "days*8+lapses*2");
        bestDue(y, 0, 1, 25, 1);
        RelicHouse w = after("sister 8;relic 0 0 10;", "give 0;day;day;day;day;");
        Checks.law(w, "lapses*50+days");
        // 5 without, 50 and 4 / 2 + 1 with a lapse
        bestDue(w, 0, 1, 29, 1);
        // behind the one 6 or 53, behind the other 54 or 99
        bestDue(w, 0, 2, 53, 1);
        Checks.promise(21, "the day goes by, lapsed or not");
        Checks.law(y, "lapses*5+day*2");
        bestDue(y, 0, 1, 21, 2);
        bestDue(y, 0, 2, 15, 1);
        Checks.promise(21, "of a RELIC its own DAYS, of a SISTER her own lapses");
        RelicHouse z = after("sister 0;sister 8;relic 0 0 10;relic 1 0 10;", "give 1;again 5[day;];give 0;lapse 1;day;");
        Checks.law(z, "days*8+lapses");
        bestDue(z, 0, 0, 8, 1);
        bestDue(z, 1, 0, 25, 1);
        bestDue(z, 0, 1, 16, 1);
        Checks.promise(21, "nothing stays changed");
        Checks.due("DAYS", y.relic(0, 3), 3);
        Checks.due("lapses", y.sister(0, 1), 0);
        Checks.due("the DAY", y.told(3), 3);
    }

    private static void without() {
        Checks.promise(22, "DOES WITHOUT by n (0 to 12), in least terms");
        RelicHouse x = after("sister 0;sister 15;sister 1;sister 8;sister 6;", "die 1;");
        long[][] due = {{0, 0, 1, 1}, {0, 12, 1, 1}, {1, 0, 1, 1}, {1, 1, 1, 16}, {1, 12, 1, 1L << 48},
            {2, 12, 129746337890625L, 1L << 48}, {3, 12, 1, 4096}, {4, 12, 244140625, 1L << 36}, {4, 1, 5, 8}};
        for (long[] d : due) {
            Checks.due("without(" + d[0] + ", " + d[1] + ", 0)", x.without((int) d[0], (int) d[1], 0), d[2]);
            Checks.due("without(" + d[0] + ", " + d[1] + ", 1)", x.without((int) d[0], (int) d[1], 1), d[3]);
        }
        Checks.noArgument("n one below", () -> x.without(0, -1, 0));
        Checks.noArgument("n one above", () -> x.without(0, 13, 0));
        Checks.noArgument("part one below", () -> x.without(0, 0, -1));
        Checks.noArgument("part one above", () -> x.without(0, 0, 2));
        Checks.noElement("SISTER one below, all wrong", () -> x.without(-1, 13, 2));
        Checks.noElement("SISTER one above, all wrong", () -> x.without(5, -1, -1));
        Checks.due("status(0)", x.status(0), 2);
        Checks.due("status(1)", x.status(1), 4);
        Checks.promise(22, "dead: as if she lived");
        Checks.due("dead", x.without(1, 2, 1), 256);
    }

    private static void ring() {
        Checks.promise(23, "to oneself: 1; NONE");
        RelicHouse x = Checks.with("sister 0;".repeat(8) + "vow 0 0;vow 1 2;vow 2 1;vow 3 1;vow 4 5;vow 5 6;");
        int[] due = {1, 2, 2, -1, -1, -1, -1, -1};
        for (int s = 0; s < 8; s++) {
            Checks.due("ring(" + s + ")", x.ring(s), due[s]);
        }
        Checks.noElement("one below", () -> x.ring(-1));
        Checks.noElement("one above", () -> x.ring(8));
        Checks.due("status(0)", x.status(0), 2);
        Checks.promise(23, "a RING as long as it may be");
        RelicHouse y = Checks.with("sister 0;".repeat(8)
                + "vow 0 1;vow 1 2;vow 2 3;vow 3 4;vow 4 5;vow 5 6;vow 6 7;vow 7 0;");
        for (int s = 0; s < 8; s++) {
            Checks.due("ring(" + s + ")", y.ring(s), 8);
        }
        Checks.work(y, "die 0;die 3;");
        Checks.due("the dead gave their VOWS, too", y.ring(0), 8);
    }

    private static void follows() {
        Checks.promise(24, "FOLLOWS by n (0 to 1,000,000)");
        RelicHouse x = Checks.with("sister 0;".repeat(8)
                + "vow 0 1;vow 1 2;vow 2 3;vow 3 4;vow 4 5;vow 5 6;vow 6 7;vow 7 0;");
        int[][] due = {{3, 0, 3}, {3, 1, 4}, {3, 5, 0}, {3, 8, 3}, {3, 9, 4}, {3, 16, 3}, {3, 999999, 2}, {3, 1000000, 3}};
        for (int[] d : due) {
            Checks.due("follows(" + d[0] + ", " + d[1] + ")", x.follows(d[0], d[1]), d[2]);
        }
        Checks.noArgument("n one below", () -> x.follows(0, -1));
        Checks.noArgument("n one above", () -> x.follows(0, 1000001));
        Checks.noElement("SISTER one below, n wrong", () -> x.follows(-1, -1));
        Checks.noElement("SISTER one above, n wrong", () -> x.follows(8, 1000001));
        Checks.due("status(0)", x.status(0), 2);
        Checks.due("status(1)", x.status(1), 2);
        Checks.promise(24, "NONE");
        RelicHouse y = Checks.with("sister 0;".repeat(8) + "vow 0 1;vow 1 2;vow 2 3;vow 3 4;vow 4 5;vow 5 6;vow 6 7;");
        Checks.due("the last", y.follows(0, 7), 7);
        Checks.due("behind the last", y.follows(0, 8), -1);
        Checks.due("further behind", y.follows(0, 9), -1);
        Checks.due("as far as it may be", y.follows(0, 1000000), -1);
        Checks.due("without a VOW, by 0", y.follows(7, 0), 7);
        Checks.due("without a VOW, by 1", y.follows(7, 1), -1);
        Checks.promise(24, "a VOW to oneself");
        RelicHouse w = Checks.with("sister 0;sister 0;vow 0 1;vow 1 1;");
        for (int n : new int[] {1, 7, 8, 9, 10, 999999, 1000000}) {
            Checks.due("follows(0, " + n + ")", w.follows(0, n), 1);
            Checks.due("follows(1, " + n + ")", w.follows(1, n), 1);
        }
        Checks.promise(24, "a RING of each length, by ways as long as may be");
        for (int length = 1; length <= 8; length++) {
            StringBuilder ring = new StringBuilder("sister 0;".repeat(8));
            for (int s = 0; s < length; s++) {
                ring.append("vow ").append(s).append(' ').append((s + 1) % length).append(';');
            }
            RelicHouse v = Checks.with(ring.toString());
            for (int n = 0; n <= 24; n++) {
                Checks.due("follows(0, " + n + ") of " + length, v.follows(0, n), n % length);
            }
            Checks.due("follows(0, 1000000) of " + length, v.follows(0, 1000000), 1000000 % length);
        }
        Checks.promise(24, "into a RING, by as long a way as may be");
        RelicHouse z = Checks.with("sister 0;".repeat(8) + "vow 0 1;vow 1 2;vow 2 3;vow 3 4;vow 4 5;vow 5 6;vow 6 7;vow 7 6;");
        for (int n = 6; n <= 12; n++) {
            Checks.due("follows(0, " + n + ")", z.follows(0, n), n % 2 == 0 ? 6 : 7);
        }
        Checks.due("follows(0, 1000000)", z.follows(0, 1000000), 6);
        Checks.due("follows(0, 999999)", z.follows(0, 999999), 7);
    }

    private static void temptedDue(int v, int w, int rests, int first, int together) {
        RelicHouse x = new RelicHouse();
        Checks.due("tempted(" + v + ", " + w + ", 0)", x.tempted(v, w, 0), rests);
        Checks.due("tempted(" + v + ", " + w + ", 1)", x.tempted(v, w, 1), first);
        Checks.due("tempted(" + v + ", " + w + ", 2)", x.tempted(v, w, 2), together);
    }

    private static void tempted() {
        Checks.promise(25, "TEMPTED by v, w (0 to 99)");
        temptedDue(0, 0, 2, 0, 0);
        temptedDue(99, 99, 2, 0, 198);
        temptedDue(0, 99, 1, 11, 0);
        temptedDue(99, 0, 2, 0, 198);
        Checks.promise(25, "neither would have more by the other thing");
        temptedDue(50, 49, 2, 0, 100);
        temptedDue(50, 50, 2, 0, 100);
        temptedDue(50, 51, 1, 11, 0);
        temptedDue(0, 1, 1, 11, 0);
        Checks.promise(25, "v, w, what out of their bounds");
        RelicHouse x = new RelicHouse();
        Checks.noArgument("v one below", () -> x.tempted(-1, 0, 0));
        Checks.noArgument("v one above", () -> x.tempted(100, 0, 0));
        Checks.noArgument("w one below", () -> x.tempted(0, -1, 0));
        Checks.noArgument("w one above", () -> x.tempted(0, 100, 0));
        Checks.noArgument("what one below", () -> x.tempted(0, 0, -1));
        Checks.noArgument("what one above", () -> x.tempted(0, 0, 3));
        Checks.due("status(1)", x.status(1), 6);
    }

    private static void almsDue(RelicHouse x, int pilgrims, int n, int... due) {
        for (int p = 0; p < due.length; p++) {
            Checks.due("alms(" + p + ", " + pilgrims + ", " + n + ")", x.alms(p, pilgrims, n), due[p]);
        }
    }

    private static void alms() {
        RelicHouse x = Checks.with("pilgrim 1 12;pilgrim 1 20;pilgrim 2 6;pilgrim 3 1;");
        Checks.promise(26, "the greatest bound by which no more than n are given");
        almsDue(x, 15, 0, 0, 0, 0, 0);
        almsDue(x, 15, 3, 0, 0, 0, 0);
        almsDue(x, 15, 4, 1, 1, 1, 1);
        almsDue(x, 15, 6, 1, 1, 1, 1);
        almsDue(x, 15, 7, 2, 2, 2, 1);
        almsDue(x, 15, 30, 11, 11, 6, 1);
        almsDue(x, 15, 31, 12, 12, 6, 1);
        almsDue(x, 15, 32, 12, 13, 6, 1);
        Checks.promise(26, "all, if they are no more");
        almsDue(x, 15, 38, 12, 19, 6, 1);
        almsDue(x, 15, 39, 12, 20, 6, 1);
        almsDue(x, 15, 40, 12, 20, 6, 1);
        almsDue(x, 15, 999, 12, 20, 6, 1);
        Checks.promise(26, "0, if he is none of them");
        almsDue(x, 5, 10, 5, 0, 5, 0);
        almsDue(x, 8, 10, 0, 0, 0, 1);
        almsDue(x, 0, 999, 0, 0, 0, 0);
        Checks.promise(26, "n (0 to 999), bits of no PILGRIMS");
        Checks.noArgument("n one below", () -> x.alms(0, 15, -1));
        Checks.noArgument("n one above", () -> x.alms(0, 15, 1000));
        Checks.noArgument("bits one above", () -> x.alms(0, 16, 9));
        Checks.noArgument("bits of one who is there and one who is not", () -> x.alms(0, 17, 9));
        Checks.noArgument("bits below 0", () -> x.alms(0, -1, 9));
        Checks.noArgument("the highest bit", () -> x.alms(0, Integer.MIN_VALUE + 1, 9));
        Checks.noElement("PILGRIM one below, all wrong", () -> x.alms(-1, 16, 1000));
        Checks.noElement("PILGRIM one above, all wrong", () -> x.alms(4, -1, -1));
        Checks.due("status(0)", x.status(0), 2);
        Checks.due("status(1)", x.status(1), 6);
    }

    private static void almsFull() {
        Checks.promise(26, "as many as there may be, of the largest NEED");
        RelicHouse x = Checks.with("pilgrim 0 99;".repeat(8));
        almsDue(x, 255, 999, 99, 99, 99, 99, 99, 99, 99, 99);
        almsDue(x, 255, 792, 99, 99, 99, 99, 99, 99, 99, 99);
        almsDue(x, 255, 791, 98, 98, 98, 98, 98, 98, 98, 98);
        almsDue(x, 255, 8, 1, 1, 1, 1, 1, 1, 1, 1);
        almsDue(x, 255, 7, 0, 0, 0, 0, 0, 0, 0, 0);
        almsDue(x, 128, 98, 0, 0, 0, 0, 0, 0, 0, 98);
        Checks.noArgument("bits one above", () -> x.alms(0, 256, 9));
    }
}
