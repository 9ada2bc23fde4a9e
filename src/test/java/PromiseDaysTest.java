/** Promises 8 to 12, 14, 37, 38 and 40: what the steps do, what is told of it, undo and images. */
final class PromiseDaysTest {
    private static final String HOUSE = "sister 4;sister 8;sister 0;relic 0 1 10;relic 0 2 5;relic 1 1 20;"
            + "relic 2 0 7;pilgrim 1 12;pilgrim 1 20;pilgrim 2 6;pilgrim 3 1;vow 0 1;vow 1 0;vow 2 0;vow 2 1;";

    private PromiseDaysTest() {
    }

    public static void main(String[] args) {
        give();
        back();
        lapse();
        cure();
        die();
        day();
        undo();
        told();
        sister();
        relic();
        pilgrim();
        can();
        images();
        imagesAndUndo();
        counts();
        Checks.end("PromiseDaysTest");
    }

    private static void step(RelicHouse x, String text, boolean isDone) {
        Checks.due("'" + text + "' is done", Checks.work(x, text), isDone ? 1 : 0);
        Checks.due("'" + text + "' is refused", x.told(9), isDone ? 0 : 1);
    }

    private static void give() {
        RelicHouse x = Checks.with(HOUSE);
        step(x, "give 1;", true);
        Checks.due("KEPT", x.told(5), 2);
        Checks.due("DAYS 0", x.relic(1, 3), 0);
        Checks.work(x, "day;day;");
        Checks.due("DAYS 2", x.relic(1, 3), 2);
        step(x, "give 1;", false);
        Checks.due("a refused give changes nothing", x.relic(1, 3), 2);
        Checks.work(x, "back 1;");
        step(x, "give 1;", true);
        Checks.due("DAYS 0 again", x.relic(1, 3), 0);
        Checks.work(x, "die 0;");
        step(x, "give 0;", false);
        Checks.due("of a dead one none is KEPT", x.told(5), 0);
    }

    private static void back() {
        RelicHouse x = Checks.with(HOUSE);
        step(x, "back 0;", false);
        Checks.work(x, "give 0;give 2;day;cure 2 1;");
        step(x, "back 2;", true);
        Checks.due("KEPT", x.told(5), 1);
        Checks.due("no DAYS", x.relic(2, 3), -1);
        Checks.due("no POWER", x.relic(2, 4), 0);
        Checks.due("it was used all the same", x.told(7), 4);
        Checks.due("who is CURED stays so", x.told(6), 2);
        step(x, "back 2;", false);
    }

    private static void lapse() {
        RelicHouse x = Checks.with(HOUSE);
        step(x, "lapse 0;", false);
        Checks.due("no lapse", x.sister(0, 1), 0);
        Checks.work(x, "give 0;day;day;give 1;give 2;day;day;day;");
        step(x, "lapse 0;", true);
        Checks.due("lapses", x.sister(0, 1), 1);
        Checks.due("5 halved", x.relic(0, 3), 2);
        Checks.due("3 halved", x.relic(1, 3), 1);
        Checks.due("not the other one's", x.relic(2, 3), 3);
        Checks.due("POWER", x.relic(0, 4), 10);
        Checks.work(x, "back 0;lapse 0;");
        Checks.due("only KEPT ones", x.relic(1, 3), 0);
        Checks.work(x, "back 1;");
        step(x, "lapse 0;", false);
        Checks.due("lapses stay", x.sister(0, 1), 2);
        Checks.work(x, "die 1;");
        step(x, "lapse 1;", false);
    }

    private static void cure() {
        RelicHouse x = Checks.with(HOUSE);
        step(x, "cure 2 1;", false);
        Checks.work(x, "give 0;give 1;give 2;");
        step(x, "cure 0 0;", false);
        step(x, "cure 2 2;", false);
        step(x, "cure 2 1;", true);
        Checks.due("CURED", x.told(6), 2);
        Checks.due("by", x.pilgrim(1, 2), 2);
        Checks.due("used", x.told(7), 4);
        step(x, "cure 2 0;", false);
        Checks.work(x, "day;");
        Checks.due("nothing was used", x.told(7), 0);
        step(x, "cure 2 1;", false);
        step(x, "cure 0 0;", false);
        Checks.work(x, "day;");
        step(x, "cure 0 0;", true);
        Checks.due("CURED then", x.told(6), 3);
        // a law by which a relic that is not KEPT would do
        Checks.law(x, "99");
        step(x, "cure 3 3;", false);
    }

    private static void die() {
        RelicHouse x = Checks.with(HOUSE);
        Checks.work(x, "give 0;give 1;give 2;lapse 0;");
        step(x, "die 0;", true);
        Checks.due("living", x.told(4), 6);
        Checks.due("hers are KEPT no more", x.told(5), 4);
        Checks.due("her lapses stay", x.sister(0, 1), 1);
        step(x, "die 0;", false);
        step(x, "die 2;", true);
        Checks.due("living then", x.told(4), 2);
    }

    private static void day() {
        RelicHouse x = Checks.with(HOUSE);
        Checks.work(x, "give 2;day;give 0;");
        step(x, "day;", true);
        Checks.due("DAY", x.told(3), 2);
        Checks.due("DAYS of 2", x.relic(2, 3), 2);
        Checks.due("DAYS of 0", x.relic(0, 3), 1);
        Checks.due("DAYS of one that is not KEPT", x.relic(1, 3), -1);
    }

    private static void undo() {
        RelicHouse x = Checks.with(HOUSE);
        Checks.due("none", x.undo(), -1);
        Checks.work(x, "give 2;give 2;day;cure 2 1;lapse 1;");
        Checks.work(x, "die 1;");
        Checks.work(x, "die 1;");
        Checks.work(x, "?");
        Checks.due("refused", x.told(9), 1);
        Checks.due("undo a work whose only step was refused", x.undo(), 2);
        Checks.due("nothing is refused behind", x.told(9), 0);
        Checks.due("still dead", x.told(4), 5);
        Checks.due("undo", x.undo(), 1);
        Checks.due("lives", x.told(4), 7);
        Checks.due("KEPT", x.told(5), 4);
        Checks.due("lapses", x.sister(1, 1), 1);
        Checks.law(x, "0");
        Checks.due("undo", x.undo(), 0);
        Checks.due("DAY", x.told(3), 0);
        Checks.due("CURED", x.told(6), 0);
        Checks.due("by", x.pilgrim(1, 2), -1);
        Checks.due("used", x.told(7), 0);
        Checks.due("lapses", x.sister(1, 1), 0);
        Checks.due("no undo of the LAW", x.would(9, 0, 0, 0, 0, 0, 0, 0), 0);
        Checks.due("none is left", x.undo(), -1);
    }

    private static void told() {
        RelicHouse x = Checks.with(HOUSE);
        Checks.work(x, "give 0;give 2;day;cure 2 1;die 2;back 1;");
        Checks.seen(x, "0 11;2 9;");
        int[] due = {3, 4, 4, 1, 3, 5, 2, 4, 2, 1, 32};
        for (int what = 0; what < due.length; what++) {
            Checks.due("told(" + what + ")", x.told(what), due[what]);
        }
        Checks.noArgument("told(-1)", () -> x.told(-1));
        Checks.noArgument("told(11)", () -> x.told(11));
    }

    private static void sister() {
        RelicHouse x = Checks.with(HOUSE);
        Checks.work(x, "give 1;lapse 0;");
        int[] due = {4, 1, 3, 2, 1};
        for (int what = 0; what < due.length; what++) {
            Checks.due("sister(0, " + what + ")", x.sister(0, what), due[what]);
        }
        Checks.due("of one the last vow counts", x.sister(2, 4), 1);
        RelicHouse y = Checks.with("sister 0;");
        Checks.due("no vow", y.sister(0, 4), -1);
        Checks.noArgument("sister(0, 5)", () -> x.sister(0, 5));
        Checks.noArgument("sister(0, -1)", () -> x.sister(0, -1));
        Checks.noElement("sister(3, 0)", () -> x.sister(3, 0));
        Checks.noElement("sister(-1, 0)", () -> x.sister(-1, 0));
        Checks.noElement("sister(3, 9): the element goes ahead", () -> x.sister(3, 9));
    }

    private static void relic() {
        RelicHouse x = Checks.with(HOUSE);
        Checks.work(x, "give 2;day;day;");
        int[] due = {1, 1, 20, 2, 22, 3};
        for (int what = 0; what < due.length; what++) {
            Checks.due("relic(2, " + what + ")", x.relic(2, what), due[what]);
        }
        Checks.work(x, "cure 2 0;");
        Checks.due("not the CURED one, used or not", x.relic(2, 5), 2);
        Checks.due("not KEPT", x.relic(0, 3), -1);
        Checks.work(x, "give 1;");
        Checks.due("tomorrow, not today", x.relic(1, 5), 0);
        Checks.work(x, "day;");
        Checks.due("today", x.relic(1, 5), 4);
        Checks.work(x, "back 1;");
        x.undo();
        x.undo();
        x.undo();
        Checks.law(x, "others*9+lapses*3+tempted+day*20");
        Checks.due("POWER", x.relic(2, 4), 48);
        Checks.work(x, "give 0;give 1;lapse 0;");
        Checks.due("others, lapses, tempted, day", x.relic(0, 4), 9 + 3 + 4 + 40);
        Checks.law(x, "ill*10+sister");
        Checks.due("ill, sister", x.relic(2, 4), 11);
        Checks.noArgument("relic(0, 6)", () -> x.relic(0, 6));
        Checks.noArgument("relic(0, -1)", () -> x.relic(0, -1));
        Checks.noElement("relic(4, 0)", () -> x.relic(4, 0));
        Checks.noElement("relic(-1, 9)", () -> x.relic(-1, 9));
    }

    private static void pilgrim() {
        RelicHouse x = Checks.with(HOUSE);
        Checks.work(x, "give 0;give 2;day;day;cure 2 0;");
        int[] due = {1, 12, 2, 5};
        for (int what = 0; what < due.length; what++) {
            Checks.due("pilgrim(0, " + what + ")", x.pilgrim(0, what), due[what]);
        }
        Checks.due("not CURED", x.pilgrim(1, 2), -1);
        Checks.due("nobody at first", Checks.with(HOUSE).pilgrim(0, 2), -1);
        Checks.work(x, "give 1;");
        Checks.due("tomorrow, not today", x.pilgrim(2, 3), 0);
        x.undo();
        Checks.due("the used one CAN", x.pilgrim(1, 3), 4);
        Checks.noArgument("pilgrim(0, 4)", () -> x.pilgrim(0, 4));
        Checks.noArgument("pilgrim(0, -1)", () -> x.pilgrim(0, -1));
        Checks.noElement("pilgrim(4, 0)", () -> x.pilgrim(4, 0));
        Checks.noElement("pilgrim(-1, 4)", () -> x.pilgrim(-1, 4));
    }

    private static void can() {
        RelicHouse x = Checks.with(HOUSE);
        Checks.due("not KEPT", x.can(2, 1), false);
        Checks.work(x, "give 0;give 2;");
        Checks.due("it can", x.can(2, 1), true);
        Checks.due("too weak", x.can(0, 0), false);
        Checks.work(x, "day;");
        Checks.due("too weak until tomorrow", x.can(0, 0), false);
        x.undo();
        Checks.due("another ill", x.can(2, 2), false);
        Checks.work(x, "cure 2 1;");
        Checks.due("used", x.can(2, 0), false);
        Checks.work(x, "day;day;");
        Checks.due("not used", x.can(2, 0), true);
        Checks.due("he is CURED", x.can(2, 1), false);
        Checks.due("asked, nothing stays changed", x.told(6), 2);
        Checks.noElement("can(4, 0)", () -> x.can(4, 0) ? 1 : 0);
        Checks.noElement("can(0, 4)", () -> x.can(0, 4) ? 1 : 0);
        Checks.noElement("can(-1, -1)", () -> x.can(-1, -1) ? 1 : 0);
    }

    private static void images() {
        RelicHouse x = Checks.with(HOUSE);
        Checks.due("restore", x.restore(), -1);
        Checks.due("image 1", x.image(), 1);
        Checks.work(x, "give 2;day;cure 2 1;lapse 1;");
        Checks.due("image 2", x.image(), 2);
        Checks.work(x, "die 0;die 0;");
        Checks.due("image 3", x.image(), 3);
        Checks.due("image 4", x.image(), -1);
        Checks.work(x, "die 1;die 1;");
        Checks.law(x, "7");
        Checks.seen(x, "2 7;");
        Checks.due("restore 3", x.restore(), 2);
        Checks.due("nothing is refused behind", x.told(9), 0);
        Checks.due("living", x.told(4), 6);
        Checks.due("the LAW stays", x.relic(2, 4), 7);
        Checks.due("what is SEEN stays", x.told(8), 1);
        Checks.due("restore 2", x.restore(), 1);
        Checks.due("living", x.told(4), 7);
        Checks.due("KEPT", x.told(5), 4);
        Checks.due("DAY", x.told(3), 1);
        Checks.due("CURED", x.told(6), 2);
        Checks.due("used", x.told(7), 4);
        Checks.due("lapses", x.sister(1, 1), 1);
        Checks.due("by", x.pilgrim(1, 2), 2);
        Checks.due("restore 1", x.restore(), 0);
        Checks.due("KEPT", x.told(5), 0);
        Checks.due("DAY", x.told(3), 0);
        Checks.due("none is left", x.restore(), -1);
    }

    private static void imagesAndUndo() {
        RelicHouse x = Checks.with(HOUSE);
        Checks.work(x, "day;");
        Checks.work(x, "day;");
        x.image();
        x.undo();
        x.undo();
        Checks.work(x, "give 0;");
        Checks.due("one work", x.count(2), 1);
        x.restore();
        Checks.due("two works again", x.count(2), 2);
        Checks.due("DAY 2", x.told(3), 2);
        Checks.due("undo", x.undo(), 1);
        Checks.due("DAY 1", x.told(3), 1);
        Checks.due("undo", x.undo(), 0);
        Checks.due("DAY 0", x.told(3), 0);
        Checks.due("nothing is KEPT", x.told(5), 0);
        Checks.work(x, "give 0;");
        Checks.work(x, "give 1;");
        x.image();
        x.undo();
        x.undo();
        Checks.work(x, "give 2;");
        Checks.work(x, "give 3;");
        x.restore();
        Checks.due("the works as they were: KEPT", x.told(5), 3);
        x.undo();
        Checks.due("the works as they were: undone", x.told(5), 1);
        x.undo();
        for (int i = 0; i < 16; i++) {
            Checks.work(x, "day;");
        }
        x.image();
        x.undo();
        x.restore();
        Checks.due("16 works in an image", x.count(2), 16);
        Checks.due("16 works are there", Checks.work(x, "day;"), -20);
        Checks.due("undo them", x.undo(), 15);
        Checks.due("DAY 15", x.told(3), 15);
        for (int i = 0; i < 15; i++) {
            x.undo();
        }
        // a refused step is still told of when there is nothing to restore
        Checks.work(x, "back 0;");
        Checks.due("no image", x.restore(), -1);
        Checks.due("told(9)", x.told(9), 1);
    }

    private static void counts() {
        RelicHouse x = Checks.with(HOUSE);
        Checks.work(x, "day;");
        x.image();
        x.image();
        Checks.feed(x, "day;");
        Checks.due("count(0)", x.count(0), 2);
        Checks.due("count(1)", x.count(1), 20);
        Checks.due("count(2)", x.count(2), 1);
        Checks.due("count(3)", x.count(3), -1);
        Checks.due("count(-1)", x.count(-1), -1);
        Checks.noElement("refused", () -> x.ring(3));
        Checks.noElement("refused", () -> x.relic(4, 99));
        Checks.noArgument("refused", () -> x.told(99));
        Checks.due("status(0)", x.status(0), 2);
        Checks.due("status(1)", x.status(1), 1);
        Checks.due("status(2)", x.status(2), -1);
        Checks.due("status(-1)", x.status(-1), -1);
        x.restore();
        Checks.due("no IMAGE keeps it", x.status(0), 2);
        Checks.house(x, "");
        Checks.due("nor does a house", x.status(1), 1);
    }
}
