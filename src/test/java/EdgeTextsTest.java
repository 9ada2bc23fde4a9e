import java.util.function.ToIntFunction;

/** Promises 1 to 7: a test of its own for each sentence that names a boundary of a text. */
final class EdgeTextsTest {
    private static final String SISTER = "sister 1;";

    private EdgeTextsTest() {
    }

    public static void main(String[] args) {
        newObject();
        feed();
        feedFull();
        feedOrder();
        houseLength();
        houseClauses();
        houseSisters();
        houseRelics();
        housePilgrims();
        houseVows();
        houseEndsTooEarly();
        houseFaultsLeaveAll();
        houseDoesAnew();
        firstBytes();
        fault();
        Checks.end("EdgeTextsTest");
    }

    private static void newObject() {
        Checks.promise(1, "a HOUSE without CLAUSES");
        RelicHouse x = new RelicHouse();
        for (int what = 0; what <= 10; what++) {
            Checks.due("told(" + what + ")", x.told(what), 0);
        }
        for (int what = 0; what <= 2; what++) {
            Checks.due("count(" + what + ")", x.count(what), 0);
        }
        Checks.due("status(0)", x.status(0), 0);
        Checks.due("status(1)", x.status(1), 0);
        Checks.due("fault()", x.fault(), -1);
        Checks.due("no LAW", x.would(30, 7, 3, 1, 1, 1, 1, 1), 31);
        Checks.due("match()", x.match(), 0);
        Checks.due("the empty set alone", x.lapsed(0), 1);
        Checks.due("the first", x.lapsed(1), 0);
        Checks.due("SURE", x.lapsed(2), 0);
        for (int what = 0; what <= 1; what++) {
            Checks.due("ask(" + what + ")", x.ask(what), -1);
            Checks.due("strongest(" + what + ")", x.strongest(what), -1);
            Checks.due("eldest(" + what + ")", x.eldest(what), -1);
            Checks.due("weakest(" + what + ")", x.weakest(what), -1);
        }
        Checks.due("bare()", x.bare(), 63);
        Checks.due("idle()", x.idle(), 0);
        Checks.due("hopeless(99)", x.hopeless(99), 0);
        Checks.due("needs(5)", x.needs(5), 0);
        for (int what = 0; what <= 3; what++) {
            Checks.due("year(7, 96, " + what + ")", x.year(7, 96, what), 0);
        }
        Checks.due("undo()", x.undo(), -1);
        Checks.due("restore()", x.restore(), -1);
        Checks.due("image()", x.image(), 1);
        Checks.due("a WORK of days alone", Checks.work(x, "day;day;"), 2);
        Checks.due("the DAY", x.told(3), 2);
        Checks.due("restore() then", x.restore(), 0);
        Checks.due("DAY 0", x.told(3), 0);
        Checks.due("nothing can be SEEN but nothing", x.seen(0), 0);
        Checks.due("no RELIC can be", Checks.seen(x, "0 0;"), -8);
        Checks.due("no RELIC can be given", Checks.work(x, "give 0;"), -8);
    }

    private static void feed() {
        Checks.promise(2, "how many there are");
        RelicHouse x = new RelicHouse();
        for (int many = 20; many <= 600; many += 20) {
            Checks.due("feed", x.feed(1, 2, 3, 4, 5), many);
            Checks.due("count(1)", x.count(1), many);
        }
        Checks.due("a text takes them all away", x.house(1), -9);
        Checks.due("feed anew", x.feed(0, 0, 0, 0, 0), 20);
    }

    private static void feedFull() {
        Checks.promise(2, "NONE, doing nothing, if there would be more than 600");
        RelicHouse x = new RelicHouse();
        String text = SISTER + " ".repeat(585) + "vow 0;";
        Checks.feed(x, text);
        Checks.due("as full as it may be", x.count(1), 600);
        for (int i = 0; i < 3; i++) {
            Checks.due("one more", x.feed(0x20202020, 0x20202020, 0x20202020, 0x20202020, 0x20202020), -1);
            Checks.due("count(1)", x.count(1), 600);
        }
        Checks.due("no refused call by status(0)", x.status(0), 0);
        Checks.due("no refused call by status(1)", x.status(1), 0);
        Checks.due("fault() is not touched", x.fault(), -1);
        Checks.due("the bytes are as they were", x.house(600), -9);
        Checks.due("the last one, too", x.fault(), 599);
        Checks.due("room again", x.feed(0, 0, 0, 0, 0), 20);
    }

    private static void feedOrder() {
        Checks.promise(2, "twenty bytes, of each number the highest first");
        RelicHouse x = new RelicHouse();
        Checks.due("feed", x.feed(0x73697374, 0x65722031, 0x323b7369, 0x73746572, 0x2031333b), 20);
        Checks.due("sister 12;sister 13;", x.house(20), 0);
        Checks.due("T of the first", x.sister(0, 0), 12);
        Checks.due("T of the last", x.sister(1, 0), 13);
        // 128 and 255: bytes that a sign bit may not spoil
        int[] numbers = {0x80202020, 0x20802020, 0x20208020, 0x20202080, 0xff202020, 0x202020ff};
        int[] places = {0, 1, 2, 3, 0, 3};
        for (int i = 0; i < numbers.length; i++) {
            x.feed(numbers[i], 0, 0, 0, 0);
            Checks.due("what can't stand there", x.house(4), -9);
            Checks.due("its place", x.fault(), places[i]);
        }
        for (int k = 0; k < 5; k++) {
            int[] five = {0x20202020, 0x20202020, 0x20202020, 0x20202020, 0x20202020};
            five[k] = 0x203b2020;
            x.feed(five[0], five[1], five[2], five[3], five[4]);
            Checks.due("one sign in number " + k, x.house(20), -9);
            Checks.due("its place", x.fault(), 4 * k + 1);
        }
    }

    static RelicHouse houseIs(String text, int relics) {
        RelicHouse x = new RelicHouse();
        Checks.due("house '" + text + "'", Checks.house(x, text), relics);
        Checks.due("no FAULT in '" + text + "'", x.fault(), -1);
        return x;
    }

    static void houseFault(String text, int kind, int place) {
        RelicHouse x = new RelicHouse();
        Checks.due("house '" + text + "'", Checks.house(x, text), kind - 10);
        Checks.due("fault() of '" + text + "'", x.fault(), place);
        Checks.due("the TAPE is empty then", x.count(1), 0);
    }

    private static void houseLength() {
        Checks.promise(3, "a text of up to 600 bytes");
        RelicHouse x = houseIs(SISTER + " ".repeat(583) + "vow 0 0;", 0);
        Checks.due("the last of 600 bytes counts", x.sister(0, 4), 0);
        houseIs(" ".repeat(600), 0);
        houseFault(SISTER + " ".repeat(584) + "vow 0 0", 1, 600);
        houseFault(SISTER + " ".repeat(590) + "?", 1, 599);
        houseFault("sister" + " ".repeat(594), 1, 600);
        Checks.promise(3, "no bytes at all");
        RelicHouse y = Twins.rich();
        Checks.due("house(0)", y.house(0), 0);
        Checks.due("SISTERS", y.told(0), 0);
        Checks.due("the TAPE is empty then", y.count(1), 0);
    }

    private static void houseClauses() {
        Checks.promise(3, "CLAUSES, at most 60");
        RelicHouse x = houseIs(SISTER + "vow 0 0;".repeat(59), 0);
        Checks.due("SISTERS", x.told(0), 1);
        houseIs(SISTER + "vow 0 0;".repeat(59) + "  ", 0);
        int sixty = 9 + 59 * 8;
        for (String more : new String[] {"vow 0 0;", "sister 1;", "relic 0 0 1;", "pilgrim 0 1;", "vow", "sister 16;"}) {
            houseFault(SISTER + "vow 0 0;".repeat(59) + more, 3, sixty);
            houseFault(SISTER + "vow 0 0;".repeat(59) + "  " + more, 3, sixty + 2);
        }
        Checks.promise(3, "of one the least");
        for (String more : new String[] {"vows", "x", ";", "7", "?"}) {
            houseFault(SISTER + "vow 0 0;".repeat(59) + " " + more, 1, sixty + 1);
        }
        Checks.promise(3, "the first from the left");
        houseFault(SISTER + "vow 0 0;".repeat(58) + "vow 0 1;vow 0 0;", 2, sixty - 2);
        houseFault(SISTER + "vow 0 0;".repeat(58) + "vow 0 0?vow 0 0;", 1, sixty - 1);
    }

    private static void houseSisters() {
        Checks.promise(3, "SISTERS, 8 at most");
        StringBuilder all = new StringBuilder();
        for (int s = 0; s < 8; s++) {
            RelicHouse y = houseIs(all.toString(), 0);
            Checks.due("SISTERS", y.told(0), s);
            Checks.noElement("sister(" + s + ") of " + s, () -> y.sister(y.told(0), 0));
            all.append("sister ").append(s + 8).append(';');
        }
        RelicHouse x = houseIs(all.toString(), 0);
        Checks.due("SISTERS", x.told(0), 8);
        for (int s = 0; s < 8; s++) {
            Checks.due("numbered from 0 on", x.sister(s, 0), s + 8);
        }
        Checks.noElement("sister(8, 0)", () -> x.sister(8, 0));
        houseFault(all + "sister 0;", 3, all.length());
        houseFault(all + " sister", 3, all.length() + 1);
        Checks.promise(3, "T of 16, 0 to 15");
        Checks.due("0", houseIs("sister 0;", 0).sister(0, 0), 0);
        Checks.due("15", houseIs("sister 15;", 0).sister(0, 0), 15);
        houseFault("sister 16;", 2, 7);
        houseFault("sister -1;", 1, 7);
        numbersThatAreTooLong("sister ", 0, 15, ";");
    }

    /** Digits, as many as stand there: none of these may wrap around to one that is allowed. */
    private static void numbersThatAreTooLong(String ahead, int least, int most, String behind) {
        String[] wraps = {"256", "65536", "4294967296", "4294967297", "4294967298", "18446744073709551616",
            "18446744073709551617", "340282366920938463463374607431768211457", "99999999999999999999", "2147483648"};
        for (String number : wraps) {
            houseFault(ahead + number + behind, 2, ahead.length());
        }
        houseIs(ahead + "0".repeat(40) + least + behind, ahead.contains("relic") ? 1 : 0);
        houseIs(ahead + "0".repeat(40) + most + behind, ahead.contains("relic") ? 1 : 0);
        houseFault(ahead + "0".repeat(40) + (most + 1) + behind, 2, ahead.length());
    }

    private static void houseRelics() {
        Checks.promise(3, "RELICS, 10 at most");
        StringBuilder all = new StringBuilder("sister 1;sister 2;");
        for (int r = 0; r < 10; r++) {
            Checks.due("RELICS", houseIs(all.toString(), r).told(1), r);
            all.append("relic 1 0 ").append(r + 1).append(';');
        }
        RelicHouse x = houseIs(all.toString(), 10);
        for (int r = 0; r < 10; r++) {
            Checks.due("numbered from 0 on", x.relic(r, 2), r + 1);
        }
        Checks.noElement("relic(10, 0)", () -> x.relic(10, 0));
        houseFault(all + "relic 0 0 1;", 3, all.length());
        Checks.promise(3, "of SISTER S, told ahead");
        Checks.due("the first", houseIs("sister 1;sister 1;relic 0 0 1;", 1).relic(0, 0), 0);
        Checks.due("the last", houseIs("sister 1;sister 1;relic 1 0 1;", 1).relic(0, 0), 1);
        houseFault("sister 1;sister 1;relic 2 0 1;", 2, 24);
        houseFault("sister 1;relic 1 0 1;sister 1;", 2, 15);
        houseFault("relic 0 0 1;sister 1;", 2, 6);
        houseFault("sister 1;relic -1 0 1;", 1, 15);
        numbersThatAreTooLong("sister 1;relic ", 0, 0, " 0 1;");
        Checks.promise(3, "against the ill K, 0 to 5");
        Checks.due("0", houseIs("sister 1;relic 0 0 1;", 1).relic(0, 1), 0);
        Checks.due("5", houseIs("sister 1;relic 0 5 1;", 1).relic(0, 1), 5);
        houseFault("sister 1;relic 0 6 1;", 2, 17);
        houseFault("sister 1;relic 0 -1 1;", 1, 17);
        numbersThatAreTooLong("sister 1;relic 0 ", 0, 5, " 1;");
        Checks.promise(3, "WORTH W, 1 to 30");
        Checks.due("1", houseIs("sister 1;relic 0 0 1;", 1).relic(0, 2), 1);
        Checks.due("30", houseIs("sister 1;relic 0 0 30;", 1).relic(0, 2), 30);
        houseFault("sister 1;relic 0 0 0;", 2, 19);
        houseFault("sister 1;relic 0 0 31;", 2, 19);
        houseFault("sister 1;relic 0 0 00;", 2, 19);
        numbersThatAreTooLong("sister 1;relic 0 0 ", 1, 30, ";");
    }

    private static void housePilgrims() {
        Checks.promise(3, "PILGRIMS, 8 at most");
        StringBuilder all = new StringBuilder();
        for (int p = 0; p < 8; p++) {
            Checks.due("PILGRIMS", houseIs(all.toString(), 0).told(2), p);
            all.append("pilgrim 3 ").append(p + 1).append(';');
        }
        RelicHouse x = houseIs(all.toString(), 0);
        Checks.due("PILGRIMS", x.told(2), 8);
        for (int p = 0; p < 8; p++) {
            Checks.due("numbered from 0 on", x.pilgrim(p, 1), p + 1);
        }
        Checks.noElement("pilgrim(8, 0)", () -> x.pilgrim(8, 0));
        houseFault(all + "pilgrim 0 1;", 3, all.length());
        Checks.promise(3, "has the ill K, 0 to 5");
        Checks.due("0", houseIs("pilgrim 0 1;", 0).pilgrim(0, 0), 0);
        Checks.due("5", houseIs("pilgrim 5 1;", 0).pilgrim(0, 0), 5);
        houseFault("pilgrim 6 1;", 2, 8);
        houseFault("pilgrim -1 1;", 1, 8);
        numbersThatAreTooLong("pilgrim ", 0, 5, " 1;");
        Checks.promise(3, "NEED N, 1 to 99");
        Checks.due("1", houseIs("pilgrim 0 1;", 0).pilgrim(0, 1), 1);
        Checks.due("99", houseIs("pilgrim 0 99;", 0).pilgrim(0, 1), 99);
        houseFault("pilgrim 0 0;", 2, 10);
        houseFault("pilgrim 0 100;", 2, 10);
        numbersThatAreTooLong("pilgrim 0 ", 1, 99, ";");
    }

    private static void houseVows() {
        Checks.promise(3, "SISTER A gave hers to B, both told ahead");
        Checks.due("to herself", houseIs("sister 1;vow 0 0;", 0).sister(0, 4), 0);
        Checks.due("to the last", houseIs("sister 1;sister 1;vow 0 1;", 0).sister(0, 4), 1);
        Checks.due("of the last", houseIs("sister 1;sister 1;vow 1 0;", 0).sister(1, 4), 0);
        houseFault("vow 0 0;sister 1;", 2, 4);
        houseFault("sister 1;vow 1 0;sister 1;", 2, 13);
        houseFault("sister 1;vow 0 1;sister 1;", 2, 15);
        houseFault("sister 1;sister 1;vow 2 2;", 2, 22);
        numbersThatAreTooLong("sister 1;vow ", 0, 0, " 0;");
        numbersThatAreTooLong("sister 1;vow 0 ", 0, 0, ";");
        Checks.promise(3, "of one A the last counts");
        RelicHouse x = houseIs("sister 1;sister 1;sister 1;vow 0 1;vow 0 2;vow 1 0;vow 0 0;vow 1 2;", 0);
        Checks.due("of the first", x.sister(0, 4), 0);
        Checks.due("of the second", x.sister(1, 4), 2);
        Checks.due("of none", x.sister(2, 4), -1);
    }

    private static void houseEndsTooEarly() {
        Checks.promise(3, "at the length, if the text ends too early");
        String[] heads = {"sister", "sister 1", "relic", "relic 0", "relic 0 0", "relic 0 0 1", "pilgrim", "pilgrim 0",
            "pilgrim 0 1", "vow", "vow 0", "vow 0 0"};
        for (String head : heads) {
            houseFault(SISTER + head, 1, 9 + head.length());
            houseFault(SISTER + head + "   ", 1, 12 + head.length());
            houseFault(SISTER + head + "?", 1, 9 + head.length());
        }
        Checks.promise(3, "WORDS: small letters, as many as stand there");
        houseFault("sisterrelic 0 0 1;", 1, 0);
        houseFault("siste 1;", 1, 0);
        houseFault("sistera 1;", 1, 0);
        houseFault("sisterz 1;", 1, 0);
        houseFault("zsister 1;", 1, 0);
        houseFault("sisters 1;", 1, 0);
        houseFault("Sister 1;", 1, 0);
        houseFault("sisteR 1;", 1, 0);
        houseFault("s", 1, 0);
        houseFault("`", 1, 0);
        houseFault("{", 1, 0);
        houseFault("sister/1;", 1, 6);
        houseFault("sister:1;", 1, 6);
        Checks.promise(3, "blanks (32) may stand ahead of all these, and at the end");
        Checks.due("blanks everywhere", houseIs("  sister   7   ;   relic  0  1  2  ;   ", 1).sister(0, 0), 7);
        Checks.due("no blanks at all", houseIs("sister7;relic0 1 2;vow0 0;", 1).sister(0, 4), 0);
        houseFault("sis ter 1;", 1, 0);
        houseFault("sister 1 5;", 1, 9);
        houseFault("sister\t1;", 1, 6);
        houseFault("sister 1;\n", 1, 9);
        houseFault("sister 1;\0", 1, 9);
    }

    private static void leaves(int promise, String what, ToIntFunction<RelicHouse> text) {
        Checks.promise(promise, "the FAULT less 10: " + what);
        RelicHouse x = Twins.richWithoutTape();
        RelicHouse twin = Twins.richWithoutTape();
        Checks.due("a FAULT", text.applyAsInt(x) < 0, true);
        Checks.due("no refused call by status(0)", x.status(0), 0);
        Checks.due("no refused call by status(1)", x.status(1), 0);
        Checks.due("the TAPE is empty then", x.count(1), 0);
        // the twin's latest text has a fault at place 4, too
        Checks.due("the place", x.fault(), 4);
        Twins.leavesAll("all stays", x, twin);
    }

    private static void houseFaultsLeaveAll() {
        leaves(3, "of a HOUSE, 1", x -> Checks.house(x, "    ;"));
        leaves(3, "of a HOUSE, 2", x -> Checks.house(x, "vow 0 0;"));
        leaves(3, "of a HOUSE, 3", x -> 0 * Checks.house(x, "sister 3;".repeat(9)) + Checks.law(x, "1 + + 1"));
        leaves(3, "of a HOUSE that has much", x -> 0 * Checks.house(x, "sister 9;sister 9;sister 9;relic 2 5 30;"
                + "relic 1 5 29;relic 0 5 28;relic 0 5 27;pilgrim 5 98;pilgrim 5 98;pilgrim 5 98;pilgrim 5 98;vow 0 2;vow 2 2;?")
                + Checks.law(x, "1 + + 1"));
        leaves(4, "of a LAW, 1", x -> Checks.law(x, "99  ?"));
        leaves(4, "of a LAW, 2", x -> Checks.law(x, "99+ 1000"));
        leaves(4, "of a LAW, 3", x -> 0 * Checks.law(x, "(((((((99)))))))") + Checks.law(x, "99* "));
        leaves(5, "of a WORK, 1", x -> Checks.work(x, "day;?"));
        leaves(5, "of a WORK, 2", x -> Checks.work(x, "die 9;"));
        leaves(5, "of a WORK, 3", x -> 0 * Checks.work(x, "day;die 0;" + "again 1[".repeat(7)) + Checks.work(x, "day;?"));
        leaves(6, "of what is SEEN, 1", x -> Checks.seen(x, "0 1;?"));
        leaves(6, "of what is SEEN, 2", x -> Checks.seen(x, "1 2;1 3;"));
        leaves(6, "of what is SEEN, 2, all told anew", x -> Checks.seen(x, "1 2;4 3;"));
    }

    private static void houseDoesAnew() {
        Checks.promise(3, "DAY 0; no LAW, nothing SEEN, no IMAGES, nothing to undo");
        RelicHouse x = Twins.richWithoutTape();
        Checks.due("house", Checks.house(x, "sister 4;sister 8;relic 1 1 10;pilgrim 1 12;pilgrim 1 10;"), 1);
        int[] due = {2, 1, 2, 0, 3, 0, 0, 0, 0, 0, 0};
        for (int what = 0; what <= 10; what++) {
            Checks.due("told(" + what + ")", x.told(what), due[what]);
        }
        Checks.due("no LAW", x.would(7, 2, 2, 0, 0, 0, 0, 0), 5);
        Checks.due("IMAGES", x.count(0), 0);
        Checks.due("WORKS", x.count(2), 0);
        Checks.due("restore()", x.restore(), -1);
        Checks.due("undo()", x.undo(), -1);
        Checks.due("no FAULT", x.fault(), -1);
        Checks.due("lapses", x.sister(0, 1), 0);
        Checks.due("no VOW", x.sister(0, 4), -1);
        Checks.due("nobody is CURED", x.pilgrim(1, 2), -1);
        Checks.due("ask(0): in no line", x.ask(0), 0);
        Checks.due("DAYS of one given anew", Checks.work(x, "give 0;"), 1);
        Checks.due("DAYS", x.relic(0, 3), 0);
        Checks.due("not used", x.can(0, 1), true);
        Checks.promise(3, "nothing of an earlier HOUSE, nor of a faulty one");
        RelicHouse z = new RelicHouse();
        String large = "sister 1;".repeat(8) + "relic 0 0 9;".repeat(10) + "pilgrim 0 9;".repeat(8) + "vow 0 1;vow 1 0;";
        for (String text : new String[] {large, large, large + "?", "sister 2;sister 3;relic 1 0 9;pilgrim 0 9;"}) {
            Checks.house(z, text);
        }
        Checks.due("SISTERS", z.told(0), 2);
        Checks.due("RELICS", z.told(1), 1);
        Checks.due("PILGRIMS", z.told(2), 1);
        Checks.due("RELICS of the first", z.sister(0, 2), 0);
        Checks.due("RELICS of the second", z.sister(1, 2), 1);
        Checks.due("no VOW of the first", z.sister(0, 4), -1);
        Checks.due("no VOW of the second", z.sister(1, 4), -1);
        Checks.work(z, "give 0;");
        Checks.due("match()", z.match(), 1);
        Checks.due("hopeless(0)", z.hopeless(0), 0);
        Checks.due("idle()", z.idle(), 1);
        Checks.promise(3, "status is not begun anew");
        RelicHouse y = new RelicHouse();
        Checks.noElement("ring(0)", () -> y.ring(0));
        Checks.noArgument("house(1)", () -> y.house(1));
        y.house(0);
        Checks.due("status(0)", y.status(0), 1);
        Checks.due("status(1)", y.status(1), 1);
    }

    private static void firstBytes() {
        Checks.promise(3, "the first n bytes of the TAPE (empty then)");
        RelicHouse x = new RelicHouse();
        Checks.feed(x, "sister 1;sister 2;  ");
        Checks.due("house(9)", x.house(9), 0);
        Checks.due("SISTERS", x.told(0), 1);
        Checks.due("nothing is left of the TAPE", x.count(1), 0);
        Checks.noArgument("house(1) then", () -> x.house(1));
        Checks.feed(x, "sister 1;sister 2;  ");
        Checks.due("house(18)", x.house(18), 0);
        Checks.due("SISTERS", x.told(0), 2);
        Checks.feed(x, "sister 1;sister 2;");
        Checks.due("house(19): a byte 0 behind", x.house(19), -9);
        Checks.due("its place", x.fault(), 18);
        Checks.promise(4, "the first n bytes of the TAPE (empty then)");
        Checks.feed(x, "12345");
        Checks.due("law(2)", x.law(2), 1);
        Checks.due("12", x.would(1, 0, 0, 0, 0, 0, 0, 0), 12);
        Checks.due("nothing is left of the TAPE", x.count(1), 0);
        Checks.promise(5, "the first n bytes of the TAPE (empty then)");
        Checks.feed(x, "day;day;day;");
        Checks.due("work(8)", x.work(8), 2);
        Checks.due("nothing is left of the TAPE", x.count(1), 0);
        Checks.feed(x, "day;day;day;");
        Checks.due("work(0)", x.work(0), 0);
        Checks.due("nothing is left of the TAPE", x.count(1), 0);
        Checks.promise(6, "the first n bytes of the TAPE (empty then)");
        Checks.house(x, "sister 0;relic 0 0 1;relic 0 0 1;");
        Checks.feed(x, "0 1;1 1;");
        Checks.due("seen(4)", x.seen(4), 1);
        Checks.due("nothing is left of the TAPE", x.count(1), 0);
    }

    private static void fault() {
        Checks.promise(7, "the place of the FAULT of the latest text; NONE without");
        RelicHouse x = new RelicHouse();
        Checks.due("ahead of any text", x.fault(), -1);
        Checks.law(x, "?");
        Checks.due("at the first byte", x.fault(), 0);
        Checks.noArgument("a refused call reads no text", () -> x.house(1));
        Checks.due("still that", x.fault(), 0);
        x.feed(0x20202020, 0, 0, 0, 0);
        Checks.due("bytes are no text yet", x.fault(), 0);
        x.undo();
        x.image();
        x.restore();
        Checks.due("nor is a call without one", x.fault(), 0);
        Checks.due("house(4)", x.house(4), 0);
        Checks.due("NONE without", x.fault(), -1);
        Checks.due("law(0)", x.law(0), -9);
        Checks.due("at the length 0", x.fault(), 0);
        Checks.due("work(0)", x.work(0), 0);
        Checks.due("NONE without", x.fault(), -1);
        Checks.due("seen", Checks.seen(x, " ".repeat(59) + "?"), -9);
        Checks.due("at the last of 60", x.fault(), 59);
        Checks.due("seen(0)", x.seen(0), 0);
        Checks.due("NONE without", x.fault(), -1);
        Checks.due("law", Checks.law(x, " ".repeat(150)), -9);
        Checks.due("at the length 150", x.fault(), 150);
        Checks.due("law", Checks.law(x, "1"), 1);
        Checks.due("NONE without", x.fault(), -1);
        Checks.due("house", Checks.house(x, " ".repeat(599) + "?"), -9);
        Checks.due("at the last of 600", x.fault(), 599);
    }
}
