/**
 * Two houses that were told the same. One of them gets one thing more, which the document says
 * leaves all as it was; then both are asked everything, down to what undo, the images and the tape
 * still hold, and must answer alike.
 */
final class Twins {
    interface Act {
        long on(RelicHouse x);
    }

    static final int SISTERS = 3;
    static final int RELICS = 4;
    static final int PILGRIMS = 4;
    /** Fed at the end of the telling: a house that the digest reads at last. */
    private static final String ON_TAPE = "sister 7;relic 0 3 9;";
    static final int TAPE = 40;

    private Twins() {
    }

    /** Works, an image, a law, something seen, the fault of a text, and bytes on the tape. */
    static RelicHouse rich() {
        RelicHouse x = richWithoutTape();
        Checks.feed(x, ON_TAPE);
        return x;
    }

    static RelicHouse richWithoutTape() {
        RelicHouse x = Checks.with("sister 4;sister 8;sister 0;relic 0 1 10;relic 0 2 5;relic 1 1 20;relic 2 0 7;"
                + "pilgrim 1 12;pilgrim 1 20;pilgrim 2 6;pilgrim 3 1;vow 0 1;vow 1 0;vow 2 0;");
        Checks.law(x, "worth+days-lapses*3");
        Checks.work(x, "give 0;give 2;day;cure 2 1;");
        x.image();
        Checks.work(x, "give 1;day;day;lapse 0;give 1;die 2;back 3;cure 2 0;");
        Checks.seen(x, "0 8;2 23;");
        Checks.law(x, "1 + + 1");
        return x;
    }

    /** The act is refused or answers that there is nothing to do: no trace is left but in status. */
    static void leavesAll(String what, RelicHouse touched, RelicHouse twin) {
        String got = digest(touched);
        String due = digest(twin);
        Checks.due(what + ": all stays (" + firstUnlike(got, due) + ")", got.equals(due), true);
    }

    private static String firstUnlike(String got, String due) {
        String[] a = got.split("\n");
        String[] b = due.split("\n");
        for (int i = 0; i < a.length && i < b.length; i++) {
            if (!a[i].equals(b[i])) {
                return a[i] + ", twin: " + b[i];
            }
        }
        return "alike";
    }

    /** Ends the object: everything is undone, and the tape read. */
    private static String digest(RelicHouse x) {
        StringBuilder b = new StringBuilder();
        ask(x, b);
        b.append("restore ").append(x.restore()).append('\n');
        ask(x, b);
        b.append("undo ").append(x.undo()).append('\n');
        ask(x, b);
        b.append("undo ").append(x.undo()).append('\n');
        b.append("house ").append(x.count(1) >= ON_TAPE.length() ? x.house(ON_TAPE.length()) : -99).append('\n');
        b.append("told ").append(x.told(0)).append(' ').append(x.told(1)).append('\n');
        return b.toString();
    }

    /** Some hundred calls: an object has 512, and this is done three times. */
    private static void ask(RelicHouse x, StringBuilder b) {
        b.append("fault ").append(x.fault()).append('\n');
        for (int what = 0; what <= 10; what++) {
            b.append("told(").append(what).append(") ").append(x.told(what)).append('\n');
        }
        for (int what = 0; what <= 2; what++) {
            b.append("count(").append(what).append(") ").append(x.count(what)).append('\n');
            b.append("lapsed(").append(what).append(") ").append(x.lapsed(what)).append('\n');
        }
        for (int s = 0; s < x.told(0); s++) {
            for (int what = 0; what <= 4; what++) {
                b.append("sister(").append(s).append(", ").append(what).append(") ").append(x.sister(s, what)).append('\n');
            }
        }
        for (int r = 0; r < x.told(1); r++) {
            for (int what = 0; what <= 5; what++) {
                b.append("relic(").append(r).append(", ").append(what).append(") ").append(x.relic(r, what)).append('\n');
            }
        }
        for (int p = 0; p < x.told(2); p++) {
            for (int what = 0; what <= 3; what++) {
                b.append("pilgrim(").append(p).append(", ").append(what).append(") ").append(x.pilgrim(p, what)).append('\n');
            }
        }
        b.append("ask ").append(x.ask(0)).append(' ').append(x.ask(1)).append('\n');
        b.append("would ").append(x.would(7, 5, 2, 1, 1, 1, 1, 1)).append('\n');
    }
}
