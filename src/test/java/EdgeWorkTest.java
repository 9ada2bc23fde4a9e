/** Promises 5, 6, 8, 37, 38 and 40: a test of its own for each boundary of WORK, SEEN, undo and IMAGES. */
final class EdgeWorkTest {
    private static final String HOUSE = "sister 1;sister 2;relic 0 0 9;relic 1 1 9;relic 0 1 5;pilgrim 0 9;pilgrim 1 10;";

    private EdgeWorkTest() {
    }

    public static void main(String[] args) {
        length();
        numbers();
        faults();
        endsTooEarly();
        open();
        agains();
        twoHundred();
        lastDay();
        give();
        back();
        lapse();
        cure();
        die();
        day();
        sixteenWorks();
        seenLength();
        seenNumbers();
        seenFaults();
        textsStay();
        undo();
        images();
        imagesOfWorks();
        counts();
        Checks.end("EdgeWorkTest");
    }

    private static RelicHouse workIs(String text, int done, int refused) {
        RelicHouse x = Checks.with(HOUSE);
        workOn(x, text, done, refused);
        return x;
    }

    private static void workOn(RelicHouse x, String text, int done, int refused) {
        Checks.due("work '" + text + "'", Checks.work(x, text), done);
        Checks.due("REFUSED by '" + text + "'", x.told(9), refused);
        Checks.due("no FAULT in '" + text + "'", x.fault(), -1);
        Checks.due("the TAPE is empty then", x.count(1), 0);
    }

    private static void workFault(String text, int kind, int place) {
        RelicHouse x = Checks.with(HOUSE);
        Checks.work(x, "back 0;");
        Checks.due("work '" + text + "'", Checks.work(x, text), kind - 10);
        Checks.due("fault() of '" + text + "'", x.fault(), place);
        Checks.due("none is done", x.told(3), 0);
        Checks.due("none to undo", x.count(2), 1);
        Checks.due("REFUSED by the latest that was done", x.told(9), 1);
        Checks.due("the TAPE is empty then", x.count(1), 0);
    }

    private static void length() {
        Checks.promise(5, "a text of up to 150 bytes");
        workIs("day;".repeat(36) + "  day;", 37, 0);
        workIs(" ".repeat(150), 0, 0);
        workFault("day;".repeat(37) + " ?", 1, 149);
        workFault("day;".repeat(36) + "   day", 1, 150);
        workFault("day;".repeat(37) + "da", 1, 148);
        Checks.promise(5, "n to 150");
        RelicHouse x = Checks.with(HOUSE);
        Checks.feed(x, " ".repeat(160));
        Checks.noArgument("work(151)", () -> x.work(151));
        Checks.due("it stays", x.count(1), 160);
        Checks.due("no WORK", x.count(2), 0);
        Checks.due("status(1)", x.status(1), 1);
        Checks.due("work(150)", x.work(150), 0);
        Checks.promise(5, "no STEPS at all");
        RelicHouse y = workIs("", 0, 0);
        Checks.due("it can be undone", y.count(2), 1);
        Checks.due("undo()", y.undo(), 0);
    }

    private static void numbers() {
        Checks.promise(5, "a number that is none such");
        workIs("give 0;give 2;", 2, 0);
        workFault("give 3;", 2, 5);
        workIs("give 2;back 2;", 2, 0);
        workFault("back 3;", 2, 5);
        workIs("give 1;lapse 1;", 2, 0);
        workFault("lapse 2;", 2, 6);
        workIs("die 1;", 1, 0);
        workFault("die 2;", 2, 4);
        workIs("cure 2 1;", 0, 1);
        workFault("cure 3 0;", 2, 5);
        workFault("cure 0 2;", 2, 7);
        workFault("cure 3 2;", 2, 5);
        workIs("again 0[day;];", 0, 0);
        workIs("again 1[day;];", 1, 0);
        workIs("again 40[day;];", 40, 0);
        workFault("again 41[day;];", 2, 6);
        workFault("again 4294967297[day;];", 2, 6);
        workFault("give 4294967296;", 2, 5);
        workFault("give -1;", 1, 5);
        workIs("again 00000000000000040[give 000000000000;];", 1, 39);
        Checks.promise(5, "a number of which there is none yet");
        RelicHouse x = new RelicHouse();
        Checks.house(x, "sister 0;pilgrim 0 1;");
        for (String text : new String[] {"give 0;", "back 0;", "cure 0 0;"}) {
            Checks.due("without RELICS '" + text + "'", Checks.work(x, text), -8);
            Checks.due("its place", x.fault(), 5);
        }
        Checks.house(x, "pilgrim 0 1;");
        Checks.due("without SISTERS", Checks.work(x, "lapse 0;"), -8);
        Checks.due("without SISTERS", Checks.work(x, "die 0;"), -8);
        Checks.house(x, "sister 0;relic 0 0 1;");
        Checks.due("without PILGRIMS", Checks.work(x, "cure 0 0;"), -8);
        Checks.due("its place", x.fault(), 7);
        Checks.promise(5, "the last that there may be");
        Checks.house(x, "sister 0;".repeat(8) + "relic 7 0 1;".repeat(10) + "pilgrim 0 1;".repeat(8));
        Checks.due("the last of each", Checks.work(x, "give 9;lapse 7;back 9;give 9;day;cure 9 7;die 7;"), 6);
        Checks.due("its POWER was too low", x.told(9), 1);
        Checks.due("one more RELIC", Checks.work(x, "give 10;"), -8);
        Checks.due("one more SISTER", Checks.work(x, "die 8;"), -8);
        Checks.due("one more PILGRIM", Checks.work(x, "cure 9 8;"), -8);
    }

    private static void faults() {
        Checks.promise(5, "what can't stand there");
        workFault(";", 1, 0);
        workFault("day;;", 1, 4);
        workFault("day;]", 1, 4);
        workFault("days;", 1, 0);
        workFault("da y;", 1, 0);
        workFault("Day;", 1, 0);
        workFault("daY;", 1, 0);
        workFault("day,", 1, 3);
        workFault("day 1;", 1, 4);
        workFault("give;", 1, 4);
        workFault("give 0 0;", 1, 7);
        workFault("give give;", 1, 5);
        workFault("cure 0;", 1, 6);
        workFault("cure 0 0 0;", 1, 9);
        workFault("cure 0,0;", 1, 6);
        workFault("sister 1;", 1, 0);
        workFault("worth;", 1, 0);
        workFault("7;", 1, 0);
        workFault("again[day;];", 1, 5);
        workFault("again 1 day;", 1, 8);
        workFault("again 1(day;);", 1, 7);
        workFault("again 1[day];", 1, 11);
        workFault("again 1[;];", 1, 8);
        workFault("again 1[day;]day;", 1, 13);
        workFault("again 1[day;]];", 1, 13);
        workFault("day;\0", 1, 4);
        workFault("day;\u00ff", 1, 4);
        Checks.promise(5, "FAULTS, the first from the left");
        workFault("give 9;give x;", 2, 5);
        workFault("give x;give 9;", 1, 5);
        workFault("give 0;" + "again 1[".repeat(6) + "give 9;again 1[", 2, 60);
        Checks.promise(5, "blanks (32) may stand ahead of all these, and at the end");
        workIs("  give  0  ;  again  2  [  day  ;  ]  ;  cure  0  0  ;  ", 4, 0);
        workIs("give0;again2[day;];cure0 0;", 4, 0);
    }

    private static void endsTooEarly() {
        Checks.promise(5, "at the length, if the text ends too early");
        String[] heads = {"day", "give", "give 0", "back", "back 0", "lapse", "lapse 0", "die", "die 0", "cure", "cure 0",
            "cure 0 0", "again", "again 1", "again 1[", "again 1[day", "again 1[day;", "again 1[day;]",
            "again 1[again 1[];", "again 1[again 1[]"};
        for (String head : heads) {
            workFault(head, 1, head.length());
            workFault("day;" + head + "  ", 1, head.length() + 6);
        }
    }

    private static void open() {
        Checks.promise(5, "a 7th again that is open at one time");
        workIs("again 1[".repeat(6) + "day;" + "];".repeat(6), 1, 0);
        workIs("again 2[".repeat(6) + "day;" + "];".repeat(6), 64, 0);
        workFault("again 1[".repeat(7) + "day;" + "];".repeat(7), 3, 48);
        workFault("again 1[".repeat(6) + "day; again", 3, 53);
        workFault("again 1[".repeat(6) + "again 41[", 3, 48);
        workFault("again 0[".repeat(6) + "again 0[];" + "];".repeat(6), 3, 48);
        Checks.promise(5, "what is closed is open no more");
        workIs("again 1[".repeat(6) + "];".repeat(6) + "again 1[".repeat(6) + "day;" + "];".repeat(6), 1, 0);
        workIs("again 1[".repeat(5) + "again 1[day;];again 1[day;];" + "];".repeat(5), 2, 0);
        Checks.promise(5, "of one the least");
        workFault("again 1[".repeat(6) + "agains 1[", 1, 48);
        workFault("again 1[".repeat(6) + "aga", 1, 48);
    }

    private static void agains() {
        Checks.promise(5, "agains not counted, nor REFUSED ones");
        workIs("again 3[day;give 0;];", 4, 2);
        workIs("again 3[];", 0, 0);
        workIs("again 0[];day;", 1, 0);
        RelicHouse x = workIs("again 2[day;again 3[day;];day;];day;", 11, 0);
        Checks.due("the DAY", x.told(3), 11);
        RelicHouse y = workIs("again 0[again 40[day;];die 0;];day;", 1, 0);
        Checks.due("the DAY", y.told(3), 1);
        Checks.due("what is in an again of none", y.told(4), 3);
        RelicHouse z = workIs("again 2[again 2[day;];again 0[die 0;];again 1[day;];];give 0;", 7, 0);
        Checks.due("one behind the other", z.told(3), 6);
    }

    private static void twoHundred() {
        Checks.promise(5, "200 STEPS at most are begun by one WORK");
        workIs("again 40[day;];".repeat(4) + "again 35[day;];day;", 195, 0);
        // 199 begun: 1 again and 198 days; the 200th is done, the 201st is left out
        workIs("again 33[day;day;day;day;day;day;];day;", 199, 0);
        RelicHouse x = workIs("again 33[day;day;day;day;day;day;];give 0;give 1;", 199, 0);
        Checks.due("the 200th alone", x.told(5), 1);
        RelicHouse y = workIs("again 33[day;day;day;day;day;day;];back 0;give 1;", 198, 1);
        Checks.due("a REFUSED one is begun, too", y.told(5), 0);
        RelicHouse z = workIs("again 33[day;day;day;day;day;day;];again 1[give 0;];give 1;", 198, 0);
        Checks.due("an again is begun, too", z.told(5), 0);
        workIs("again 40[day;day;day;day;day;];day;", 199, 0);
        workIs("again 40[back 0;back 0;back 0;back 0;back 0;];", 0, 199);
        Checks.promise(5, "an again, too, each time it is come to");
        workIs("again 40[again 0[];];day;", 1, 0);
        workIs("again 40[again 1[day;];];day;", 41, 0);
        // 1 and 40 times 1 and 4: 201 would be begun
        workIs("again 40[again 4[day;];];", 159, 0);
        String fives = "again 39[" + "again 0[];".repeat(5) + "];";
        Checks.due("the 200th alone", workIs(fives + "again 0[];again 0[];again 0[];give 0;give 1;", 1, 0).told(5), 1);
        Checks.due("not the 201st", workIs(fives + "again 0[];again 0[];again 0[];again 0[];give 0;", 0, 0).told(5), 0);
        Checks.promise(5, "what would come behind is left out, in deep agains, too");
        workIs("again 40[".repeat(5) + "day;" + "];".repeat(5) + "give 0;", 191, 0);
        Checks.promise(5, "each WORK anew");
        RelicHouse w = workIs("again 40[day;day;day;day;day;];", 199, 0);
        workOn(w, "again 40[day;day;day;day;day;];", 199, 0);
    }

    private static RelicHouse atDay(int day) {
        RelicHouse x = Checks.with(HOUSE);
        int left = day;
        while (left > 0) {
            int now = Math.min(40, left);
            Checks.work(x, "again " + now + "[day;];");
            left -= now;
        }
        return x;
    }

    private static void lastDay() {
        Checks.promise(5, "day (REFUSED from 500 on)");
        RelicHouse x = atDay(498);
        workOn(x, "give 0;day;", 2, 0);
        Checks.due("DAY 499", x.told(3), 499);
        workOn(x, "cure 0 0;day;cure 0 0;", 2, 1);
        Checks.due("DAY 500", x.told(3), 500);
        Checks.due("nothing was used", x.told(7), 0);
        RelicHouse y = atDay(499);
        workOn(y, "give 0;day;give 1;cure 0 0;", 4, 0);
        Checks.due("DAY 500", y.told(3), 500);
        workOn(y, "day;", 0, 1);
        Checks.due("still DAY 500", y.told(3), 500);
        Checks.due("DAYS stay", y.relic(0, 3), 1);
        Checks.due("what was used stays so", y.told(7), 1);
    }

    private static void give() {
        Checks.promise(5, "give: REFUSED, if it is KEPT, or its SISTER is dead");
        RelicHouse x = workIs("give 0;day;day;give 0;", 3, 1);
        Checks.due("DAYS stay", x.relic(0, 3), 2);
        workOn(x, "back 0;give 0;", 2, 0);
        Checks.due("DAYS 0", x.relic(0, 3), 0);
        workOn(x, "die 0;give 0;give 2;give 1;", 2, 2);
        Checks.due("KEPT", x.told(5), 2);
    }

    private static void back() {
        Checks.promise(5, "back: REFUSED, if it is not KEPT");
        RelicHouse x = workIs("back 0;give 0;back 0;back 0;", 2, 2);
        Checks.due("KEPT", x.told(5), 0);
        workOn(x, "give 0;give 1;die 0;back 0;back 1;", 4, 1);
    }

    private static void lapse() {
        Checks.promise(5, "lapse: REFUSED, if she is dead, or none of hers is KEPT");
        RelicHouse x = workIs("lapse 0;give 1;lapse 0;give 0;lapse 0;", 3, 2);
        Checks.due("lapses", x.sister(0, 1), 1);
        workOn(x, "back 0;lapse 0;", 1, 1);
        workOn(x, "give 0;die 0;lapse 0;", 2, 1);
        Checks.due("lapses", x.sister(0, 1), 1);
        Checks.promise(5, "DAYS of all KEPT ones of hers are halved (cut)");
        for (int days = 0; days <= 7; days++) {
            RelicHouse y = Checks.with(HOUSE);
            Checks.work(y, "give 2;day;give 0;give 1;again " + days + "[day;];lapse 0;");
            Checks.due("of " + days, y.relic(0, 3), days / 2);
            Checks.due("of " + (days + 1), y.relic(2, 3), (days + 1) / 2);
            Checks.due("not of another SISTER", y.relic(1, 3), days);
        }
        Checks.promise(5, "lapsed once more, as often as may be");
        RelicHouse z = workIs("give 0;again 40[lapse 0;lapse 0;lapse 0;lapse 0;];", 161, 0);
        Checks.due("lapses", z.sister(0, 1), 160);
        Checks.due("POWER 0 at least", z.relic(0, 4), 0);
    }

    private static void cure() {
        Checks.promise(5, "cure: REFUSED, if POWER is less than NEED");
        RelicHouse x = workIs("give 0;give 1;cure 0 0;cure 1 1;day;cure 1 1;", 5, 1);
        Checks.due("POWER just NEED", x.told(6), 3);
        Checks.promise(5, "cure: REFUSED, if P is CURED");
        workOn(x, "day;cure 0 0;cure 1 1;", 1, 2);
        Checks.due("by whom stays", x.pilgrim(0, 2), 0);
        Checks.due("nothing was used", x.told(7), 0);
        Checks.promise(5, "cure: REFUSED, if R is used this DAY");
        RelicHouse y = Checks.with("sister 0;relic 0 0 9;relic 0 0 9;pilgrim 0 9;pilgrim 0 9;pilgrim 0 9;");
        workOn(y, "give 0;give 1;cure 0 0;cure 0 1;cure 1 1;cure 1 2;", 4, 2);
        Checks.due("used", y.told(7), 3);
        workOn(y, "day;cure 0 2;", 2, 0);
        Checks.due("CURED by", y.pilgrim(2, 2), 0);
        Checks.promise(5, "cure: used this DAY, though given back and given anew");
        RelicHouse z = Checks.with("sister 0;relic 0 0 9;pilgrim 0 9;pilgrim 0 9;");
        workOn(z, "give 0;cure 0 0;back 0;give 0;cure 0 1;", 4, 1);
        Checks.promise(5, "cure: REFUSED, if it is against another ill");
        RelicHouse w = workIs("give 0;again 40[day;];cure 0 1;", 41, 1);
        Checks.due("CURED", w.told(6), 0);
        Checks.promise(5, "cure: POWER of one that is not KEPT is 0");
        Checks.law(w, "99");
        workOn(w, "cure 1 1;cure 2 1;", 0, 2);
    }

    private static void die() {
        Checks.promise(5, "die: REFUSED, if she is dead");
        RelicHouse x = workIs("give 0;give 1;give 2;die 0;die 0;", 4, 1);
        Checks.due("living", x.told(4), 2);
        Checks.due("hers are KEPT no more", x.told(5), 2);
        Checks.due("DAYS of hers", x.relic(0, 3), -1);
        workOn(x, "die 1;die 1;die 0;", 1, 2);
        Checks.due("nobody is left", x.told(4), 0);
        Checks.due("nothing is left", x.told(5), 0);
        Checks.due("days still go by", Checks.work(x, "day;"), 1);
    }

    private static void day() {
        Checks.promise(5, "day: DAYS of KEPT ones are one more; nothing was used; the next DAY");
        RelicHouse x = workIs("give 0;cure 0 0;", 2, 0);
        Checks.due("used", x.told(7), 1);
        workOn(x, "day;", 1, 0);
        Checks.due("DAYS", x.relic(0, 3), 1);
        Checks.due("not KEPT", x.relic(1, 3), -1);
        Checks.due("nothing was used", x.told(7), 0);
        Checks.due("DAY", x.told(3), 1);
        Checks.due("CURED stays", x.told(6), 1);
    }

    private static void sixteenWorks() {
        Checks.promise(5, "-20: 16 WORKS are there that were not undone");
        RelicHouse x = Checks.with(HOUSE);
        for (int i = 1; i <= 16; i++) {
            Checks.due("work " + i, Checks.work(x, i == 16 ? "day;back 0;" : "day;"), 1);
            Checks.due("count(2)", x.count(2), i);
        }
        Checks.law(x, "?");
        for (String text : new String[] {"day;", "?", "", "give 9;"}) {
            Checks.due("one more: '" + text + "'", Checks.work(x, text), -20);
            Checks.due("there is no FAULT", x.fault(), -1);
            Checks.due("the TAPE is empty then", x.count(1), 0);
            Checks.due("none is done", x.told(3), 16);
            Checks.due("REFUSED by the latest that was done", x.told(9), 1);
            Checks.due("count(2)", x.count(2), 16);
        }
        Checks.due("no refused call by status(0)", x.status(0), 0);
        Checks.due("no refused call by status(1)", x.status(1), 0);
        Checks.promise(5, "n is wrong, though 16 WORKS are there");
        Checks.feed(x, "day;");
        Checks.noArgument("work(21)", () -> x.work(21));
        Checks.noArgument("work(-1)", () -> x.work(-1));
        Checks.due("it stays", x.count(1), 20);
        Checks.due("status(1)", x.status(1), 2);
        Checks.promise(5, "16 WORKS, of which one is undone");
        Checks.due("undo()", x.undo(), 15);
        Checks.due("work(4) by what stayed", x.work(4), 1);
        Checks.due("the DAY", x.told(3), 16);
        Checks.due("one more", Checks.work(x, "day;"), -20);
        Checks.promise(5, "a faulty WORK is none of them");
        x.undo();
        Checks.due("a FAULT", Checks.work(x, "?"), -9);
        Checks.due("the 16th", Checks.work(x, "day;"), 1);
        Checks.promise(5, "16 WORKS, and a new HOUSE");
        Checks.house(x, HOUSE);
        Checks.due("the first", Checks.work(x, "day;"), 1);
        Checks.due("count(2)", x.count(2), 1);
    }

    private static void seenIs(String text, int lines) {
        RelicHouse x = tenRelics();
        Checks.due("seen '" + text + "'", Checks.seen(x, text), lines);
        Checks.due("no FAULT in '" + text + "'", x.fault(), -1);
        Checks.due("told(8)", x.told(8), lines);
        Checks.due("the TAPE is empty then", x.count(1), 0);
    }

    private static void seenFault(String text, int kind, int place) {
        RelicHouse x = tenRelics();
        Checks.seen(x, "1 0;9 0;");
        Checks.due("seen '" + text + "'", Checks.seen(x, text), kind - 10);
        Checks.due("fault() of '" + text + "'", x.fault(), place);
        Checks.due("what was SEEN stays", x.told(8), 2);
        Checks.due("what was SEEN stays: sets", x.lapsed(0), 1);
        Checks.due("what was SEEN stays: in no line", x.ask(0), 0);
        Checks.due("the TAPE is empty then", x.count(1), 0);
    }

    private static RelicHouse tenRelics() {
        return Checks.with("sister 0;" + "relic 0 0 1;".repeat(10));
    }

    private static void seenLength() {
        Checks.promise(6, "a text of up to 60 bytes");
        seenIs("0 0;1 0;2 0;3 0;4 0;5 0;6 0;7 0;8 0;" + " ".repeat(20) + "9 0;", 10);
        seenIs("0 99;1 99;2 99;3 99;4 99;5 99;6 99;7 99;8 99;9 99;" + " ".repeat(10), 10);
        seenFault(" ".repeat(57) + "0 1", 1, 60);
        seenFault(" ".repeat(59) + "?", 1, 59);
        seenIs(" ".repeat(60), 0);
        seenIs("", 0);
        Checks.promise(6, "n to 60");
        RelicHouse x = tenRelics();
        Checks.feed(x, "0 1;" + " ".repeat(76));
        Checks.noArgument("seen(61)", () -> x.seen(61));
        Checks.due("it stays", x.count(1), 80);
        Checks.due("nothing is SEEN", x.told(8), 0);
        Checks.due("status(1)", x.status(1), 1);
        Checks.due("seen(60)", x.seen(60), 1);
        Checks.promise(6, "nothing more is SEEN by no lines");
        Checks.due("seen(0)", x.seen(0), 0);
        Checks.due("told(8)", x.told(8), 0);
        Checks.due("sets", x.lapsed(0), 1);
    }

    private static void seenNumbers() {
        Checks.promise(6, "R: a RELIC");
        seenIs("0 0;", 1);
        seenIs("9 0;", 1);
        seenFault("10 0;", 2, 0);
        seenFault("-1 0;", 1, 0);
        seenFault("4294967296 0;", 2, 0);
        Checks.due("without RELICS", Checks.seen(new RelicHouse(), "0 0;"), -8);
        Checks.promise(6, "V (0 to 99)");
        seenIs("5 0;", 1);
        seenIs("5 99;", 1);
        seenFault("5 100;", 2, 2);
        seenFault("5 -1;", 1, 2);
        seenFault("5 4294967297;", 2, 2);
        seenIs("000000000005 00000000000099;", 1);
        Checks.promise(6, "no R twice");
        seenFault("5 1;5 1;", 2, 4);
        seenFault("5 1;6 1; 05 1;", 2, 9);
        seenFault("0 1;0", 2, 4);
        seenFault("9 1;9 100;", 2, 4);
        seenFault("0 0;1 0;2 0;3 0;4 0;5 0;6 0;7 0;8 0;9 0;0 0;", 2, 40);
        Checks.promise(6, "no R twice in one text; in another one it may be");
        RelicHouse x = tenRelics();
        Checks.due("seen", Checks.seen(x, "5 1;6 1;"), 2);
        Checks.due("seen anew", Checks.seen(x, "5 2;"), 1);
        Checks.due("told(8)", x.told(8), 1);
        Checks.due("a faulty one", Checks.seen(x, "7 1;7 1;"), -8);
        Checks.due("seen anew", Checks.seen(x, "7 1;5 1;"), 2);
    }

    private static void seenFaults() {
        Checks.promise(6, "at the length, if the text ends too early");
        for (String head : new String[] {"5", "5 1", "5 1;6", "5 1;6 2"}) {
            seenFault(head, 1, head.length());
            seenFault(head + "  ", 1, head.length() + 2);
        }
        Checks.promise(6, "what can't stand there");
        seenFault(";", 1, 0);
        seenFault("5;", 1, 1);
        seenFault("5 1 2;", 1, 4);
        seenFault("5 1,", 1, 3);
        seenFault("5,1;", 1, 1);
        seenFault("x 1;", 1, 0);
        seenFault("5 x;", 1, 2);
        seenFault("5 1;;", 1, 4);
        Checks.promise(6, "blanks (32) may stand ahead of all these, and at the end");
        seenIs("  5  1  ;  6  2  ;  ", 2);
    }

    /** Only a new HOUSE and the same kind of text take the place of what a text told. */
    private static void textsStay() {
        Checks.promise(6, "what is SEEN stays behind WORK, a LAW and faulty texts");
        RelicHouse x = Checks.with(HOUSE);
        Checks.law(x, "worth+7");
        Checks.seen(x, "0 1;2 3;");
        Checks.due("WORK", Checks.work(x, "give 0;day;day;lapse 0;back 0;die 0;"), 6);
        Checks.due("told(8) behind WORK", x.told(8), 2);
        Checks.due("sets behind WORK", x.lapsed(0), 0);
        Checks.law(x, "worth+8");
        Checks.due("told(8) behind a LAW", x.told(8), 2);
        Checks.due("a faulty one", Checks.seen(x, "0 0;1"), -9);
        Checks.work(x, "?");
        Checks.law(x, "?");
        Checks.house(x, "?");
        Checks.due("told(8) behind faulty texts", x.told(8), 2);
        Checks.due("seen anew", Checks.seen(x, "0 0;"), 1);
        Checks.due("sets by what is SEEN anew", x.lapsed(0), 1);
        Checks.promise(4, "the LAW stays behind WORK, what is SEEN and faulty texts");
        Checks.due("the LAW", x.would(1, 1, 1, 1, 1, 1, 1, 1), 9);
        Checks.promise(5, "WORKS and IMAGES stay behind a LAW and what is SEEN");
        x.image();
        Checks.law(x, "1");
        Checks.seen(x, "");
        Checks.due("IMAGES", x.count(0), 1);
        Checks.due("WORKS", x.count(2), 1);
        Checks.due("the DAY", x.told(3), 2);
    }

    private static void undo() {
        Checks.promise(8, "-1: there is none");
        RelicHouse x = Checks.with(HOUSE);
        Checks.due("none yet", x.undo(), -1);
        Checks.work(x, "?");
        Checks.due("a faulty one is none", x.undo(), -1);
        Checks.work(x, "give 0;day;");
        Checks.due("how many are left", x.undo(), 0);
        Checks.due("none is left", x.undo(), -1);
        Checks.due("KEPT", x.told(5), 0);
        Checks.due("no refused call by status(0)", x.status(0), 0);
        Checks.due("no refused call by status(1)", x.status(1), 0);
        Checks.promise(8, "how many are left, of as many as there may be");
        for (int i = 0; i < 16; i++) {
            Checks.work(x, "day;");
        }
        for (int left = 15; left >= 0; left--) {
            Checks.due("undo()", x.undo(), left);
            Checks.due("the DAY", x.told(3), left);
            Checks.due("count(2)", x.count(2), left);
        }
        Checks.due("none is left", x.undo(), -1);
        Checks.promise(9, "STEPS REFUSED: 0 behind undo()");
        Checks.work(x, "back 0;back 0;");
        Checks.work(x, "back 0;");
        Checks.due("told(9)", x.told(9), 1);
        x.undo();
        Checks.due("told(9) then", x.told(9), 0);
        Checks.work(x, "");
        Checks.due("told(9) of no STEPS", x.told(9), 0);
        Checks.promise(8, "the TAPE, the LAW, and what is SEEN stay");
        Checks.law(x, "55");
        Checks.seen(x, "0 1;");
        Checks.feed(x, "day;");
        x.undo();
        Checks.due("the LAW", x.would(1, 1, 1, 1, 1, 1, 1, 1), 55);
        Checks.due("SEEN", x.told(8), 1);
        Checks.due("the TAPE", x.count(1), 20);
    }

    private static void images() {
        Checks.promise(37, "how many there are; -1: there are 3");
        RelicHouse x = Checks.with(HOUSE);
        for (int i = 1; i <= 3; i++) {
            Checks.due("image()", x.image(), i);
            Checks.due("count(0)", x.count(0), i);
            Checks.work(x, "day;back 0;");
        }
        Checks.due("one more", x.image(), -1);
        Checks.due("count(0)", x.count(0), 3);
        Checks.due("REFUSED stays", x.told(9), 1);
        Checks.promise(38, "as in the latest IMAGE, which is gone: how many are left");
        for (int left = 2; left >= 0; left--) {
            Checks.due("restore()", x.restore(), left);
            Checks.due("the DAY", x.told(3), left);
            Checks.due("WORKS", x.count(2), left);
            Checks.due("REFUSED", x.told(9), 0);
            Checks.due("count(0)", x.count(0), left);
        }
        Checks.promise(38, "-1: there is none");
        Checks.due("restore()", x.restore(), -1);
        Checks.work(x, "give 0;give 0;");
        Checks.due("restore()", x.restore(), -1);
        Checks.due("all stays: KEPT", x.told(5), 1);
        Checks.due("all stays: WORKS", x.count(2), 1);
        Checks.due("no refused call by status(0)", x.status(0), 0);
        Checks.due("no refused call by status(1)", x.status(1), 0);
        Checks.promise(37, "-1, and one more behind restore()");
        x.image();
        x.image();
        x.image();
        Checks.due("one more", x.image(), -1);
        x.restore();
        Checks.due("image()", x.image(), 3);
        Checks.promise(38, "the TAPE, the LAW, what is SEEN, fault() and status stay");
        Checks.noElement("refused", () -> x.ring(9));
        Checks.noArgument("refused", () -> x.told(11));
        Checks.law(x, "55");
        Checks.seen(x, "0 1;");
        Checks.law(x, "1?");
        Checks.feed(x, "day;");
        x.restore();
        Checks.due("the LAW", x.would(1, 1, 1, 1, 1, 1, 1, 1), 55);
        Checks.due("SEEN", x.told(8), 1);
        Checks.due("the TAPE", x.count(1), 20);
        Checks.due("fault()", x.fault(), 1);
        Checks.due("status(0)", x.status(0), 1);
        Checks.due("status(1)", x.status(1), 1);
    }

    private static void imagesOfWorks() {
        Checks.promise(37, "and of WORKS that can be undone");
        RelicHouse x = Checks.with(HOUSE);
        x.image();
        for (int i = 0; i < 16; i++) {
            Checks.work(x, "day;");
        }
        x.image();
        for (int i = 0; i < 16; i++) {
            x.undo();
        }
        Checks.work(x, "give 0;");
        x.image();
        Checks.work(x, "give 1;");
        Checks.due("restore()", x.restore(), 2);
        Checks.due("1 WORK", x.count(2), 1);
        Checks.due("KEPT", x.told(5), 1);
        Checks.due("restore()", x.restore(), 1);
        Checks.due("16 WORKS", x.count(2), 16);
        Checks.due("one more", Checks.work(x, "day;"), -20);
        for (int left = 15; left >= 0; left--) {
            Checks.due("undo()", x.undo(), left);
            Checks.due("the DAY", x.told(3), left);
            Checks.due("KEPT", x.told(5), 0);
        }
        Checks.due("restore()", x.restore(), 0);
        Checks.due("no WORKS", x.undo(), -1);
        Checks.due("DAY 0", x.told(3), 0);
        Checks.promise(37, "an IMAGE is of what is then, not of what comes");
        Checks.work(x, "give 0;day;cure 0 0;lapse 0;");
        x.image();
        Checks.work(x, "die 0;die 1;");
        x.restore();
        int[] due = {2, 3, 2, 1, 3, 1, 1, 1, 0, 0, 7};
        for (int what = 0; what <= 10; what++) {
            Checks.due("told(" + what + ")", x.told(what), due[what]);
        }
        Checks.due("lapses", x.sister(0, 1), 1);
        Checks.due("CURED by", x.pilgrim(0, 2), 0);
        Checks.due("DAYS", x.relic(0, 3), 0);
        Checks.promise(37, "no IMAGES behind a new HOUSE");
        x.image();
        Checks.house(x, HOUSE);
        Checks.due("count(0)", x.count(0), 0);
        Checks.due("restore()", x.restore(), -1);
        Checks.due("a faulty HOUSE leaves them", x.image(), 1);
        Checks.house(x, "?");
        Checks.due("count(0)", x.count(0), 1);
    }

    private static void counts() {
        Checks.promise(40, "0 IMAGES, 1 bytes of the TAPE, 2 WORKS; NONE for others");
        RelicHouse x = Checks.with(HOUSE);
        for (int what : new int[] {-1, 3, Integer.MIN_VALUE, Integer.MAX_VALUE}) {
            Checks.due("count(" + what + ")", x.count(what), -1);
        }
        Checks.work(x, "day;");
        Checks.work(x, "day;");
        Checks.work(x, "day;");
        x.image();
        x.feed(0, 0, 0, 0, 0);
        x.feed(0, 0, 0, 0, 0);
        Checks.due("count(0)", x.count(0), 1);
        Checks.due("count(1)", x.count(1), 40);
        Checks.due("count(2)", x.count(2), 3);
        Checks.promise(39, "NONE for others; they are not refused");
        for (int what : new int[] {-1, 2, Integer.MIN_VALUE, Integer.MAX_VALUE}) {
            Checks.due("status(" + what + ")", x.status(what), -1);
        }
        Checks.due("status(0)", x.status(0), 0);
        Checks.due("status(1)", x.status(1), 0);
    }
}
