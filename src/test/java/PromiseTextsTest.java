/** Promises 1 to 7, and 40 for the tape: the tape and the four texts with their faults. */
final class PromiseTextsTest {
    private PromiseTextsTest() {
    }

    public static void main(String[] args) {
        newObject();
        feed();
        house();
        houseFaults();
        houseLimits();
        houseBeginsAnew();
        law();
        lawFaults();
        lawDepth();
        work();
        workFaults();
        workLimits();
        seen();
        fault();
        Checks.end("PromiseTextsTest");
    }

    private static void newObject() {
        RelicHouse x = new RelicHouse();
        for (int what = 0; what <= 10; what++) {
            Checks.due("new: told(" + what + ")", x.told(what), 0);
        }
        Checks.due("new: fault()", x.fault(), -1);
        Checks.due("new: undo()", x.undo(), -1);
        Checks.due("new: restore()", x.restore(), -1);
        Checks.due("new: count(1)", x.count(1), 0);
        Checks.due("new: would()", x.would(10, 3, 1, 0, 0, 0, 0, 0), 11);
        Checks.noElement("new: relic(0, 0)", () -> x.relic(0, 0));
        Checks.due("new: empty work", x.work(0), 0);
        Checks.due("new: NONE", RelicHouse.NONE, -1);
    }

    private static void feed() {
        RelicHouse x = new RelicHouse();
        for (int i = 1; i <= 30; i++) {
            Checks.due("feed " + i, x.feed(0x20202020, 0x20202020, 0x20202020, 0x20202020, 0x20202020), 20 * i);
        }
        Checks.due("feed 31", x.feed(1, 2, 3, 4, 5), -1);
        Checks.due("count(1) of a full tape", x.count(1), 600);
        Checks.due("600 blanks are a house", x.house(600), 0);
        Checks.due("the tape is empty then", x.count(1), 0);
        // the highest byte first: "day;" as a number
        Checks.house(x, "sister 0;");
        x.feed(0x6461793b, 0, 0, 0, 0);
        Checks.due("work(4) of day;", x.work(4), 1);
        // a number below 0 has bytes too, which can stand nowhere
        x.feed(0x6461793b, -1, 0, 0, 0);
        Checks.due("work(5) of day; and 255", x.work(5), -9);
        Checks.due("fault() there", x.fault(), 4);
    }

    private static void house() {
        RelicHouse x = new RelicHouse();
        Checks.due("house", Checks.house(x, "sister 15;sister 0;relic 1 5 30;relic 0 0 1;pilgrim 5 99;"), 2);
        Checks.due("told(0)", x.told(0), 2);
        Checks.due("told(2)", x.told(2), 1);
        Checks.due("sister(0, 0)", x.sister(0, 0), 15);
        Checks.due("relic(0, 0)", x.relic(0, 0), 1);
        Checks.due("relic(0, 1)", x.relic(0, 1), 5);
        Checks.due("relic(0, 2)", x.relic(0, 2), 30);
        Checks.due("pilgrim(0, 1)", x.pilgrim(0, 1), 99);
        Checks.due("blanks and zeros", Checks.house(x, "  sister  007  ; relic0 0 000000000000000030;  "), 1);
        Checks.due("sister(0, 0) is 7", x.sister(0, 0), 7);
        Checks.due("no text", Checks.house(x, ""), 0);
        Checks.due("told(0) then", x.told(0), 0);
        Checks.feed(x, "sister 1;");
        Checks.noArgument("house(-1)", () -> x.house(-1));
        Checks.noArgument("house(21)", () -> x.house(21));
        Checks.due("the tape stays", x.count(1), 20);
        Checks.due("house(9)", x.house(9), 0);
        Checks.due("what stands behind is gone", x.count(1), 0);
    }

    private static void houseFault(String text, int answer, int place) {
        RelicHouse x = Checks.with("sister 3;");
        Checks.due("house '" + text + "'", Checks.house(x, text), answer);
        Checks.due("fault of '" + text + "'", x.fault(), place);
        Checks.due("all stays behind '" + text + "'", x.sister(0, 0), 3);
        Checks.due("the tape behind '" + text + "'", x.count(1), 0);
    }

    private static void houseFaults() {
        houseFault("sister 16;", -8, 7);
        houseFault("sister 99999999999999999999999999;", -8, 7);
        houseFault("sister;", -9, 6);
        houseFault("sister", -9, 6);
        houseFault("sister  ", -9, 8);
        houseFault("sister 1", -9, 8);
        houseFault("sister 1  ", -9, 10);
        houseFault("sister 1 1;", -9, 9);
        houseFault("sister -1;", -9, 7);
        houseFault("Sister 1;", -9, 0);
        houseFault("sisterx 1;", -9, 0);
        houseFault(" brother 1;", -9, 1);
        houseFault(";", -9, 0);
        houseFault("sister 1;;", -9, 9);
        houseFault("sister 1;5", -9, 9);
        houseFault("relic 0 0 1;", -8, 6);
        houseFault("sister 1;relic 1 0 1;", -8, 15);
        houseFault("sister 1;relic 0 6 1;", -8, 17);
        houseFault("sister 1;relic 0 0 0;", -8, 19);
        houseFault("sister 1;relic 0 0 31;", -8, 19);
        houseFault("sister 1;relic 0 0;", -9, 18);
        houseFault("pilgrim 6 1;", -8, 8);
        houseFault("pilgrim 0 0;", -8, 10);
        houseFault("pilgrim 0 100;", -8, 10);
        houseFault("vow 0 0;", -8, 4);
        houseFault("sister 1;vow 0 1;", -8, 15);
        houseFault("sister 1;vow 1 0;", -8, 13);
        // the first from the left: the number ahead of what is missing behind it
        houseFault("sister 16", -8, 7);
        houseFault("sister 1\t;", -9, 8);
        houseFault("sister 1;\u00e9", -9, 9);
    }

    private static void houseLimits() {
        houseFault("sister 1;".repeat(8) + "sister 1;", -7, 72);
        houseFault("sister 1;".repeat(8) + " sister 16", -7, 73);
        houseFault("sister 1;" + "relic 0 0 1;".repeat(11), -7, 129);
        houseFault("pilgrim 0 1;".repeat(9), -7, 96);
        houseFault("sister 1;" + "vow 0 0;".repeat(60), -7, 9 + 59 * 8);
        // of one place the least: an unknown word is no clause too many
        houseFault("sister 1;" + "vow 0 0;".repeat(59) + "wov 0 0;", -9, 9 + 59 * 8);
        RelicHouse x = new RelicHouse();
        Checks.due("60 clauses", Checks.house(x, "sister 1;" + "vow 0 0;".repeat(59)), 0);
        Checks.due("8, 10 and 8", Checks.house(x, "sister 1;".repeat(8) + "relic 7 0 1;".repeat(10)
                + "pilgrim 0 1;".repeat(8)), 10);
        Checks.due("told(4)", x.told(4), 255);
        Checks.due("sister(7, 2)", x.sister(7, 2), 1023);
    }

    private static void houseBeginsAnew() {
        RelicHouse x = Checks.with("sister 1;relic 0 0 5;pilgrim 0 5;");
        Checks.law(x, "days");
        Checks.work(x, "give 0;give 0;day;");
        Checks.seen(x, "0 1;");
        x.image();
        Checks.due("refused ahead", x.told(9), 1);
        Checks.due("house anew", Checks.house(x, "sister 1;relic 0 0 5;pilgrim 0 5;"), 1);
        Checks.due("DAY 0", x.told(3), 0);
        Checks.due("nothing KEPT", x.told(5), 0);
        Checks.due("nothing SEEN", x.told(8), 0);
        Checks.due("nothing REFUSED", x.told(9), 0);
        Checks.due("no IMAGES", x.count(0), 0);
        Checks.due("nothing to undo", x.undo(), -1);
        Checks.due("no LAW", x.would(5, 2, 1, 0, 0, 0, 0, 0), 5);
        Checks.due("sets by nothing SEEN", x.lapsed(0), 1);
        Checks.house(x, "sister 1;sister 2;relic 1 0 5;relic 1 0 5;pilgrim 0 5;vow 0 1;");
        Checks.house(x, "sister 1;sister 2;relic 0 0 5;");
        Checks.due("nothing of an earlier house: RELICS", x.sister(1, 2), 0);
        Checks.due("nothing of an earlier house: VOWS", x.sister(0, 4), -1);
        Checks.due("nothing of an earlier house: PILGRIMS", x.told(2), 0);
    }

    private static void value(String law, int want) {
        RelicHouse x = new RelicHouse();
        Checks.due("law '" + law + "'", Checks.law(x, law), 1);
        Checks.due("would by '" + law + "'", x.would(11, 22, 33, 14, 5, 6, 7, 88), want);
    }

    private static void law() {
        value("worth", 11);
        value("days", 22);
        value("lapses", 33);
        value("tempted", 14);
        value("ill", 5);
        value("others", 6);
        value("sister", 7);
        value("day", 88);
        value("999", 99);
        value("0 - 1", 0);
        value("10 - 3 - 2", 5);
        value("2 + 3 * 4", 14);
        value("(2 + 3) * 4", 20);
        value("60 / 7 / 2", 4);
        value("60 % 7 * 2", 8);
        value("0 - 7 / 2 + 9", 6);
        value("(0 - 7) / 2 + 9", 6);
        value("(0 - 7) % 4 + 9", 6);
        value("7 / 0 + 4", 4);
        value("7 % 0 + 4", 4);
        value("7 / (3 - 3) + 7 % (3 - 3) + 1", 1);
        value("least[3,most[1,2]]", 2);
        value("most [ 3 , least [ 1 , 2 ] ] ", 3);
        value("  007", 7);
        value("999*999*999*999", 0);
        // what is left of it by 97 shows that it wraps
        value("(999*999*999*999) % 97 + 97", Math.max(0, Math.min(99, 999 * 999 * 999 * 999 % 97 + 97)));
        // the least number by 0 less 1 wraps to itself
        value("most[(0-512*512*512*16)/(0-1),0-5]+9", 4);
        value("(0-512*512*512*16)%(0-1)+3", 3);
    }

    private static void lawFault(String text, int answer, int place) {
        RelicHouse x = new RelicHouse();
        Checks.law(x, "lapses");
        Checks.due("law '" + text + "'", Checks.law(x, text), answer);
        Checks.due("fault of law '" + text + "'", x.fault(), place);
        Checks.due("the LAW stays behind '" + text + "'", x.would(1, 0, 42, 0, 0, 0, 0, 0), 42);
        Checks.due("the tape is empty", x.count(1), 0);
    }

    private static void lawFaults() {
        lawFault("", -9, 0);
        lawFault("   ", -9, 3);
        lawFault("worthy", -9, 0);
        lawFault("1000", -8, 0);
        lawFault("1 + 4294967296", -8, 4);
        lawFault("1 +", -9, 3);
        lawFault("1 2", -9, 2);
        lawFault("-1", -9, 0);
        lawFault("1;", -9, 1);
        lawFault("(1", -9, 2);
        lawFault("(1]", -9, 2);
        lawFault("1)", -9, 1);
        lawFault("least 1", -9, 6);
        lawFault("least[1]", -9, 7);
        lawFault("least[1,2,3]", -9, 9);
        lawFault("least[1,2)", -9, 9);
        lawFault("most[,2]", -9, 5);
        lawFault("worth days", -9, 6);
        lawFault("worth2", -9, 5);
        lawFault("2worth", -9, 1);
        lawFault("2 ** 3", -9, 3);
        lawFault("give", -9, 0);
        lawFault("1000 +", -8, 0);
        RelicHouse x = new RelicHouse();
        Checks.feed(x, " ".repeat(160));
        Checks.noArgument("law(151)", () -> x.law(151));
        Checks.noArgument("law(-1)", () -> x.law(-1));
        Checks.due("the tape stays", x.count(1), 160);
        Checks.due("law(150) of blanks", x.law(150), -9);
        Checks.due("its place", x.fault(), 150);
        Checks.due("a law of 150 bytes", Checks.law(x, "1" + "+1".repeat(74) + " "), 1);
        Checks.due("its value", x.would(1, 0, 0, 0, 0, 0, 0, 0), 75);
    }

    private static void lawDepth() {
        value("((((((5))))))", 5);
        lawFault("(((((((5)))))))", -7, 6);
        value("least[(most[(least[(5),9]),1]),9]", 5);
        value("least[9,(most[1,(least[9,(5)])])]", 5);
        lawFault("least[(most[(least[((5)),9]),1]),9]", -7, 20);
        lawFault("((((((least[1,2]))))))", -7, 6);
        lawFault("(((((( most", -7, 7);
        lawFault("((((((leasty", -9, 6);
        // those that are closed again are not open
        value("(1)+(1)+(1)+(1)+(1)+(1)+(1)+(1)", 8);
        // as many values wait as can
        value("1+1*most[0,".repeat(6) + "1+1*3" + "]".repeat(6), 10);
    }

    private static void work() {
        RelicHouse x = Checks.with("sister 1;sister 2;relic 0 0 9;relic 1 1 9;pilgrim 0 9;pilgrim 1 9;");
        Checks.due("each step", Checks.work(x, "give 0;give 1;back 0;day;lapse 1;cure 1 1;die 0;"), 6);
        Checks.due("one was refused", x.told(9), 1);
        Checks.due("DAY", x.told(3), 1);
        Checks.due("agains", Checks.work(x, "again 2 [day;again 3[day;];];again 0[day;];again 40[];"), 8);
        Checks.due("DAY then", x.told(3), 9);
        Checks.due("nothing was refused", x.told(9), 0);
        Checks.due("no text", Checks.work(x, "  "), 0);
        Checks.due("count(2)", x.count(2), 3);
        Checks.feed(x, "day;");
        Checks.noArgument("work(21)", () -> x.work(21));
        Checks.noArgument("work(-1)", () -> x.work(-1));
        Checks.due("the tape stays", x.count(1), 20);
        Checks.feed(x, " ".repeat(150));
        Checks.noArgument("work(151)", () -> x.work(151));
        Checks.due("the rest is gone", x.work(4), 1);
        Checks.due("count(1)", x.count(1), 0);
    }

    private static void workFault(String text, int answer, int place) {
        RelicHouse x = Checks.with("sister 1;sister 2;relic 0 0 9;relic 1 1 9;pilgrim 0 9;pilgrim 1 9;");
        Checks.work(x, "give 0;give 0;");
        Checks.due("work '" + text + "'", Checks.work(x, text), answer);
        Checks.due("fault of work '" + text + "'", x.fault(), place);
        Checks.due("no step is done by '" + text + "'", x.told(3), 0);
        Checks.due("none to undo by '" + text + "'", x.count(2), 1);
        Checks.due("the latest WORK's steps stay", x.told(9), 1);
        Checks.due("the tape is empty", x.count(1), 0);
    }

    private static void workFaults() {
        workFault("day;give 2;", -8, 9);
        workFault("day;back 2;", -8, 9);
        workFault("day;lapse 2;", -8, 10);
        workFault("day;die 2;", -8, 8);
        workFault("day;cure 2 0;", -8, 9);
        workFault("day;cure 0 2;", -8, 11);
        workFault("day;cure 0;", -9, 10);
        workFault("day;again 41[];", -8, 10);
        workFault("day;again [];", -9, 10);
        workFault("day;again 1;", -9, 11);
        workFault("day;again 1[day];", -9, 15);
        workFault("day;again 1[day;;", -9, 16);
        workFault("day;again 1[day;", -9, 16);
        workFault("day;again 1[day;]", -9, 17);
        workFault("day;];", -9, 4);
        workFault("day;days;", -9, 4);
        workFault("day;dayz;", -9, 4);
        workFault("day;aday;", -9, 4);
        workFault("day", -9, 3);
        workFault("day 1;", -9, 4);
        workFault("day;sister 1;", -9, 4);
        workFault("again 1[".repeat(6) + "again 1[", -7, 48);
        workFault("again 1[".repeat(6) + " again", -7, 49);
        workFault("again 1[".repeat(6) + "againx", -9, 48);
        RelicHouse x = Checks.with("sister 1;");
        Checks.due("six open agains", Checks.work(x, "again 1[".repeat(6) + "day;" + "];".repeat(6)), 1);
        Checks.due("without relics", Checks.work(x, "give 0;"), -8);
        Checks.due("37 steps", Checks.work(x, "day;".repeat(37) + "  "), 37);
    }

    private static void workLimits() {
        RelicHouse x = Checks.with("sister 1;relic 0 0 9;");
        Checks.due("200 steps are begun", Checks.work(x, "again 40[day;day;day;day;day;];"), 199);
        Checks.due("an again is one each time", Checks.work(x, "again 20[again 20[give 0;];];"), 1);
        Checks.due("refused ones, too", x.told(9), 188);
        Checks.due("empty agains, too", Checks.work(x, "again 5[again 40[again 1[];];];day;"), 0);
        Checks.due("199 begun, one is left", Checks.work(x, "again 33[day;day;day;day;day;day;];back 0;back 0;"), 199);
        Checks.due("what comes behind is left out", x.told(9), 0);
        Checks.due("up to DAY 500", Checks.work(x, "again 40[day;day;day;];"), 103);
        Checks.due("DAY", x.told(3), 500);
        Checks.due("refused from 500 on", x.told(9), 17);
        for (int i = x.count(2); i < 16; i++) {
            Checks.due("work " + (i + 1), Checks.work(x, ""), 0);
        }
        Checks.due("a fault ahead", Checks.law(x, "?"), -9);
        Checks.work(x, "no text that could be read");
        Checks.due("work 17", Checks.work(x, "?"), -20);
        Checks.due("there is no FAULT", x.fault(), -1);
        Checks.due("the tape is empty then", x.count(1), 0);
        Checks.noArgument("n goes ahead", () -> x.work(1));
        Checks.due("undo", x.undo(), 15);
        Checks.due("one more can be done then", Checks.work(x, "?"), -9);
        Checks.due("and it is", Checks.work(x, "give 0;"), 1);
        Checks.due("work 17 again", Checks.work(x, ""), -20);
    }

    private static void seenFault(String text, int answer, int place) {
        RelicHouse x = Checks.with("sister 1;relic 0 0 9;relic 0 0 9;");
        Checks.seen(x, "1 5;");
        Checks.due("seen '" + text + "'", Checks.seen(x, text), answer);
        Checks.due("fault of seen '" + text + "'", x.fault(), place);
        Checks.due("what was SEEN stays", x.told(8), 1);
        Checks.due("and what it was", x.ask(0), 0);
    }

    private static void seen() {
        RelicHouse x = Checks.with("sister 1;relic 0 0 9;relic 0 0 9;relic 0 0 9;");
        Checks.due("seen", Checks.seen(x, " 2 0 ; 0 99;"), 2);
        Checks.due("told(8)", x.told(8), 2);
        Checks.due("ask(0)", x.ask(0), 1);
        Checks.due("seen anew", Checks.seen(x, "1 5;"), 1);
        Checks.due("told(8) then", x.told(8), 1);
        Checks.due("ask(0) then", x.ask(0), 0);
        Checks.due("nothing", Checks.seen(x, ""), 0);
        Checks.due("told(8) at last", x.told(8), 0);
        Checks.feed(x, " ".repeat(80));
        Checks.noArgument("seen(61)", () -> x.seen(61));
        Checks.noArgument("seen(-1)", () -> x.seen(-1));
        Checks.due("seen(60)", x.seen(60), 0);
        seenFault("2 0;", -8, 0);
        seenFault("0 100;", -8, 2);
        seenFault("0 1;1 2; 0 1;", -8, 9);
        seenFault("0 1;0 100;", -8, 4);
        seenFault("0 1", -9, 3);
        seenFault("0;", -9, 1);
        seenFault("a", -9, 0);
        seenFault("0 1;;", -9, 4);
    }

    private static void fault() {
        RelicHouse x = Checks.with("sister 1;relic 0 0 9;");
        Checks.law(x, "1 + + 1");
        Checks.due("fault()", x.fault(), 4);
        Checks.noArgument("a call that reads no text", () -> x.law(1));
        x.undo();
        x.told(3);
        Checks.due("fault() is still that of the latest text", x.fault(), 4);
        Checks.work(x, "day;");
        Checks.due("fault() of a text without", x.fault(), -1);
    }
}
