/** Promises 4 and 13: a test of its own for each sentence that names a boundary of a LAW or of POWER. */
final class EdgeLawTest {
    /** 2 to the 31st power, which wraps to the least of all numbers. */
    private static final String LEAST_OF_ALL = "(512*512*512*16)";

    private EdgeLawTest() {
    }

    public static void main(String[] args) {
        length();
        withoutLaw();
        numbers();
        power();
        powerOfRelics();
        words();
        wraps();
        division();
        leastAndMost();
        faults();
        endsTooEarly();
        open();
        operators();
        would();
        Checks.end("EdgeLawTest");
    }

    private static RelicHouse lawIs(String text) {
        RelicHouse x = new RelicHouse();
        Checks.due("law '" + text + "'", Checks.law(x, text), 1);
        Checks.due("no FAULT in '" + text + "'", x.fault(), -1);
        Checks.due("the TAPE is empty then", x.count(1), 0);
        return x;
    }

    private static void value(String law, int want) {
        Checks.due("would by '" + law + "'", lawIs(law).would(11, 22, 33, 14, 5, 6, 7, 88), want);
    }

    private static void lawFault(String text, int kind, int place) {
        RelicHouse x = new RelicHouse();
        Checks.law(x, "lapses");
        Checks.due("law '" + text + "'", Checks.law(x, text), kind - 10);
        Checks.due("fault() of '" + text + "'", x.fault(), place);
        Checks.due("the LAW stays", x.would(1, 0, 42, 0, 0, 0, 0, 0), 42);
        Checks.due("the TAPE is empty then", x.count(1), 0);
    }

    private static void length() {
        Checks.promise(4, "a text of up to 150 bytes");
        value("1" + "+1".repeat(73) + "+12", 86);
        value(" ".repeat(149) + "7", 7);
        value("7" + " ".repeat(149), 7);
        lawFault("1" + "+1".repeat(74) + "?", 1, 149);
        lawFault("1" + "+1".repeat(74) + "+", 1, 150);
        lawFault(" ".repeat(150), 1, 150);
        Checks.promise(4, "n to 150");
        RelicHouse x = new RelicHouse();
        Checks.feed(x, "1" + " ".repeat(159));
        Checks.noArgument("law(151)", () -> x.law(151));
        Checks.due("it stays", x.count(1), 160);
        Checks.due("still no LAW", x.would(1, 50, 0, 0, 0, 0, 0, 0), 51);
        Checks.due("status(1)", x.status(1), 1);
        Checks.due("law(150)", x.law(150), 1);
        Checks.promise(4, "no bytes at all");
        lawFault("", 1, 0);
        lawFault("  ", 1, 2);
    }

    private static void withoutLaw() {
        Checks.promise(4, "without: worth + days - lapses * 2");
        RelicHouse x = new RelicHouse();
        Checks.due("all of them", x.would(11, 22, 3, 14, 5, 6, 7, 88), 27);
        Checks.due("a fault is no LAW", Checks.law(x, "?"), -9);
        Checks.due("still without", x.would(11, 22, 3, 14, 5, 6, 7, 88), 27);
        Checks.law(x, "5");
        Checks.due("with", x.would(11, 22, 3, 14, 5, 6, 7, 88), 5);
        Checks.law(x, "6");
        Checks.due("the latest", x.would(11, 22, 3, 14, 5, 6, 7, 88), 6);
        x.house(0);
        Checks.due("without again", x.would(11, 22, 3, 14, 5, 6, 7, 88), 27);
    }

    private static void numbers() {
        Checks.promise(4, "N (0 to 999)");
        value("0", 0);
        value("999-900", 99);
        value("999-901", 98);
        value("000000000000000000098", 98);
        lawFault("1000", 2, 0);
        lawFault("1+1000", 2, 2);
        lawFault("1+ 1000?", 2, 3);
        lawFault("65536", 2, 0);
        lawFault("4294967296", 2, 0);
        lawFault("4294967297", 2, 0);
        lawFault("18446744073709551617", 2, 0);
        lawFault("-1", 1, 0);
        lawFault("+1", 1, 0);
    }

    private static void power() {
        Checks.promise(4, "what comes out, 0 at least, 99 at most");
        value("0-1", 0);
        value("0", 0);
        value("1", 1);
        value("98", 98);
        value("99", 99);
        value("100", 99);
        value("0-999*999", 0);
        value("999*999", 99);
    }

    private static void powerOfRelics() {
        Checks.promise(4, "POWER of a RELIC that is KEPT; else 0");
        RelicHouse x = Checks.with("sister 0;relic 0 0 1;pilgrim 0 1;");
        Checks.law(x, "99");
        Checks.due("not KEPT", x.relic(0, 4), 0);
        Checks.due("not KEPT, ahead", x.ahead(0, 5, 1), 0);
        Checks.due("of all", x.told(10), 0);
        Checks.work(x, "give 0;");
        Checks.due("KEPT", x.relic(0, 4), 99);
        Checks.work(x, "back 0;");
        Checks.due("given back", x.relic(0, 4), 0);
        Checks.work(x, "give 0;die 0;");
        Checks.due("of a dead one", x.relic(0, 4), 0);
    }

    private static void words() {
        Checks.promise(4, "worth, days, lapses, tempted, ill, others, sister, day");
        String[] words = {"worth", "days", "lapses", "tempted", "ill", "others", "sister", "day"};
        int[] values = {11, 22, 33, 14, 5, 6, 7, 88};
        for (int i = 0; i < words.length; i++) {
            value(words[i], values[i]);
            lawFault(words[i] + "x", 1, 0);
            lawFault(words[i].substring(0, words[i].length() - 2), 1, 0);
            lawFault("W" + words[i], 1, 0);
            lawFault(words[i] + "1", 1, words[i].length());
            lawFault(words[i] + "[1]", 1, words[i].length());
        }
        Checks.promise(4, "worth, days, lapses, tempted, ill, others, sister, day of a RELIC");
        RelicHouse z = Checks.with("sister 1;sister 14;relic 0 1 2;relic 1 4 30;relic 1 3 3;relic 1 3 3;");
        Checks.work(z, "again 40[day;];give 1;again 7[day;];give 2;give 3;lapse 1;lapse 1;lapse 1;again 5[day;];");
        int[] due = {30, 5, 3, 14, 4, 2, 1, 52};
        for (int i = 0; i < words.length; i++) {
            Checks.law(z, words[i]);
            Checks.due(words[i] + " of a RELIC", z.relic(1, 4), due[i]);
        }
        Checks.promise(4, "others: other RELICS of hers that are KEPT");
        RelicHouse x = Checks.with("sister 0;sister 0;relic 0 0 1;relic 0 0 1;relic 1 0 1;relic 0 0 1;");
        Checks.law(x, "others*10+1");
        Checks.work(x, "give 0;give 2;");
        Checks.due("none", x.relic(0, 4), 1);
        Checks.work(x, "give 1;");
        Checks.due("one", x.relic(0, 4), 11);
        Checks.due("of another sister none", x.relic(2, 4), 1);
        Checks.work(x, "give 3;");
        Checks.due("two", x.relic(1, 4), 21);
        Checks.promise(4, "others: as many as there may be");
        RelicHouse y = Checks.with("sister 0;" + "relic 0 0 1;".repeat(10));
        Checks.law(y, "others");
        for (int r = 0; r < 10; r++) {
            Checks.work(y, "give " + r + ";");
            Checks.due("others of the first", y.relic(0, 4), r);
        }
        Checks.due("of all together", y.told(10), 90);
    }

    private static void wraps() {
        Checks.promise(4, "whole numbers of 32 bits that wrap");
        value("512*512*512*16-1", 99);
        value("512*512*512*16", 0);
        value("512*512*512*32", 0);
        value("512*512*512*32+5", 5);
        value("512*512*512*8+512*512*512*8", 0);
        value("512*512*512*8+512*512*512*8-1", 99);
        value("0-512*512*512*8-512*512*512*8-1", 99);
        value("0-512*512*512*8-512*512*512*8", 0);
        value("0-" + LEAST_OF_ALL, 0);
        value("0-" + LEAST_OF_ALL + "-1", 99);
        value(LEAST_OF_ALL + "*" + LEAST_OF_ALL, 0);
        value(LEAST_OF_ALL + "*(0-1)-1", 99);
        // 996005996001, of which 32 bits are left: 426416671 below 0
        value("999*999*999*999/999/999+500", 73);
        value("999*999*999*999%999+500", 0);
        value("999*999*999*999%999+599", 85);
    }

    private static void division() {
        Checks.promise(4, "/ cuts");
        value("7/2", 3);
        value("(0-7)/2+50", 47);
        value("7/(0-2)+50", 47);
        value("(0-7)/(0-2)+50", 53);
        value("1/2", 0);
        value("(0-1)/2+50", 50);
        Checks.promise(4, "% leaves (with the sign of what is divided)");
        value("7%4", 3);
        value("(0-7)%4+50", 47);
        value("7%(0-4)+50", 53);
        value("(0-7)%(0-4)+50", 47);
        value("8%4", 0);
        value("3%4", 3);
        Checks.promise(4, "by 0 both are 0");
        value("7/0", 0);
        value("7%0", 0);
        value("7/0+50", 50);
        value("7%0+50", 50);
        value("0/0+50", 50);
        value("0%0+50", 50);
        value("(0-7)/0+50", 50);
        value("(0-7)%0+50", 50);
        value("7/(days-22)+50", 50);
        value("7%(512*512*512*32)+50", 50);
        Checks.promise(4, "the least number by 0 less 1 wraps");
        value(LEAST_OF_ALL + "/(0-1)", 0);
        value(LEAST_OF_ALL + "/(0-1)-1", 99);
        value(LEAST_OF_ALL + "%(0-1)+50", 50);
    }

    private static void leastAndMost() {
        Checks.promise(4, "least [ E , E ], most [ E , E ]");
        value("least[5,6]", 5);
        value("least[6,5]", 5);
        value("least[5,5]", 5);
        value("most[5,6]", 6);
        value("most[6,5]", 6);
        value("most[5,5]", 5);
        value("least[0-3,2]+50", 47);
        value("most[0-3,0-2]+50", 48);
        value("least[" + LEAST_OF_ALL + "," + LEAST_OF_ALL + "-1]-1", 99);
        value("most[" + LEAST_OF_ALL + "," + LEAST_OF_ALL + "-1]", 99);
        lawFault("least", 1, 5);
        lawFault("least(1,2)", 1, 5);
        lawFault("least[]", 1, 6);
        lawFault("least[1]", 1, 7);
        lawFault("least[1,]", 1, 8);
        lawFault("least[1,2", 1, 9);
        lawFault("least[1,2)", 1, 9);
        lawFault("least[1,2,3]", 1, 9);
        lawFault("leasts[1,2]", 1, 0);
        lawFault("mostly[1,2]", 1, 0);
        lawFault("least[1;2]", 1, 7);
    }

    private static void faults() {
        Checks.promise(4, "at the end nothing more");
        lawFault("1 1", 1, 2);
        lawFault("1 worth", 1, 2);
        lawFault("1)", 1, 1);
        lawFault("1]", 1, 1);
        lawFault("1,1", 1, 1);
        lawFault("1;", 1, 1);
        lawFault("(1)(1)", 1, 3);
        lawFault("1 \0", 1, 2);
        Checks.promise(4, "what can't stand there");
        lawFault("()", 1, 1);
        lawFault("(1", 1, 2);
        lawFault("(1]", 1, 2);
        lawFault("[1]", 1, 0);
        lawFault("1++1", 1, 2);
        lawFault("1*-1", 1, 2);
        lawFault("*1", 1, 0);
        lawFault("give", 1, 0);
        lawFault("1&1", 1, 1);
        Checks.promise(4, "FAULTS, the first from the left");
        lawFault("1000+?", 2, 0);
        lawFault("?+1000", 1, 0);
        lawFault("(((((((1000", 3, 6);
        lawFault("((((((1000(", 2, 6);
        lawFault("least[1000", 2, 6);
    }

    private static void endsTooEarly() {
        Checks.promise(4, "at the length, if the text ends too early");
        String[] heads = {"1+", "1-", "1*", "1/", "1%", "(", "(1", "(1+", "least", "least[", "least[1", "least[1,",
            "least[1,2", "most", "most[", "((1)", "worth*"};
        for (String head : heads) {
            lawFault(head, 1, head.length());
            lawFault(head + "  ", 1, head.length() + 2);
        }
    }

    private static void open() {
        Checks.promise(4, "a 7th of ( least most that is open at one time");
        value("((((((5))))))", 5);
        value("most[1,".repeat(6) + "5" + "]".repeat(6), 5);
        value("least[".repeat(6) + "5" + ",9]".repeat(6), 5);
        value("(most[1,(least[9,(most[5,2])])])", 5);
        lawFault("(((((((5)))))))", 3, 6);
        lawFault("((((((least[1,2]))))))", 3, 6);
        lawFault("((((((most[1,2]))))))", 3, 6);
        lawFault("(((((( least", 3, 7);
        lawFault("((((((  (", 3, 8);
        lawFault("most[1,".repeat(6) + "(5)" + "]".repeat(6), 3, 42);
        lawFault("least[".repeat(6) + "least[1,2]", 3, 36);
        lawFault("((((((1+((", 3, 8);
        Checks.promise(4, "what is closed is open no more");
        value("((((((5))))))+((((((6))))))", 11);
        value("(((((5)+(6)))))*(1)", 11);
        value("least[(((((5))))),(((((6)))))]", 5);
        lawFault("least[(((((5))))),((((((6))))))]", 3, 23);
        lawFault("((((((5))))))+(((((((6)))))))", 3, 20);
        Checks.promise(4, "of one the least");
        lawFault("((((((x", 1, 6);
        lawFault("((((((leastx[1,2]", 1, 6);
        lawFault("((((((1000", 2, 6);
    }

    private static void operators() {
        Checks.promise(4, "E: T { + or - T }; T: U { * or / or % U }: from the left");
        value("10-3-2", 5);
        value("10-3+2", 9);
        value("96/4/2", 12);
        value("96/4*2", 48);
        value("96%7*3", 15);
        value("3*7%5", 1);
        value("2+3*4", 14);
        value("3*4+2", 14);
        value("20-3*4", 8);
        value("20-7%4-1", 16);
        value("(2+3)*4", 20);
        Checks.promise(4, "blanks (32) may stand ahead of all these, and at the end");
        value("  2  +  3  *  (  4  -  1  )  ", 11);
        value(" least [ 5 , most [ 1 , 2 ] ] ", 2);
        value("least[worth,days]", 11);
        Checks.promise(4, "as many values wait as can");
        value("1+1*least[99,".repeat(6) + "1+1*3" + "]".repeat(6), 10);
        lawFault("1+1*most[1+1*2,".repeat(6) + "1+1*(2)", 3, 94);
    }

    private static void would() {
        Checks.promise(13, "POWER by the LAW for such worth (1 to 30), days (0 to 999), ..");
        RelicHouse x = new RelicHouse();
        String[] words = {"worth", "days", "lapses", "tempted", "ill", "others", "sister", "day"};
        int[] least = {1, 0, 0, 0, 0, 0, 0, 0};
        int[] most = {30, 999, 999, 15, 5, 9, 7, 500};
        for (int i = 0; i < words.length; i++) {
            Checks.law(x, words[i] + "-" + most[i] + "+9");
            int[] v = least.clone();
            v[i] = most[i];
            Checks.due("the largest " + words[i], would(x, v), 9);
            Checks.law(x, words[i] + "+9");
            v[i] = least[i];
            Checks.due("the least " + words[i], would(x, v), least[i] + 9);
            v[i] = least[i] - 1;
            Checks.noArgument("one below the least " + words[i], () -> would(x, v));
            int[] w = least.clone();
            w[i] = most[i] + 1;
            Checks.noArgument("one above the largest " + words[i], () -> would(x, w));
            Checks.due("status(1)", x.status(1), 2 * i + 2);
        }
        Checks.due("status(0)", x.status(0), 0);
        Checks.promise(13, "POWER: 0 at least, 99 at most");
        Checks.law(x, "worth+days-lapses*2");
        Checks.due("below 0", x.would(1, 0, 1, 0, 0, 0, 0, 0), 0);
        Checks.due("0", x.would(2, 0, 1, 0, 0, 0, 0, 0), 0);
        Checks.due("1", x.would(3, 0, 1, 0, 0, 0, 0, 0), 1);
        Checks.due("99", x.would(30, 69, 0, 0, 0, 0, 0, 0), 99);
        Checks.due("100", x.would(30, 70, 0, 0, 0, 0, 0, 0), 99);
    }

    private static int would(RelicHouse x, int[] v) {
        return x.would(v[0], v[1], v[2], v[3], v[4], v[5], v[6], v[7]);
    }
}
