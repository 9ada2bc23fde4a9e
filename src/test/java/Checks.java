import java.util.NoSuchElementException;

/** What the tests share: texts for the tape, answers that are due, and the exit at the end. */
final class Checks {
    interface Call {
        long answer();
    }

    private static int wrong;
    private static int made;
    /** The promise and the sentence that the checks below stand for. */
    private static String title = "";

    private Checks() {
    }

    static void promise(int number, String sentence) {
        title = "Promise " + number + " (" + sentence + "): ";
    }

    static void due(String what, long got, long want) {
        made++;
        if (got != want) {
            wrong++;
            System.out.println(title + what + " answered " + got + ", due is " + want);
        }
    }

    static void due(String what, boolean got, boolean want) {
        due(what, got ? 1 : 0, want ? 1 : 0);
    }

    /** The call throws that exception, that very class. */
    static void refused(String what, Class<? extends RuntimeException> due, Call call) {
        made++;
        String got;
        try {
            got = String.valueOf(call.answer());
        } catch (RuntimeException e) {
            if (e.getClass() == due) {
                return;
            }
            got = e.toString();
        }
        wrong++;
        System.out.println(title + what + " answered " + got + ", due is " + due.getSimpleName());
    }

    static void noArgument(String what, Call call) {
        refused(what, IllegalArgumentException.class, call);
    }

    static void noElement(String what, Call call) {
        refused(what, NoSuchElementException.class, call);
    }

    /** Puts a text on the tape; the last twenty bytes are filled up with zeros. */
    static void feed(RelicHouse x, String text) {
        int[] five = new int[5];
        for (int from = 0; from < text.length(); from += 20) {
            for (int k = 0; k < 5; k++) {
                five[k] = 0;
                for (int j = 0; j < 4; j++) {
                    int at = from + 4 * k + j;
                    five[k] = five[k] << 8 | (at < text.length() ? text.charAt(at) & 255 : 0);
                }
            }
            x.feed(five[0], five[1], five[2], five[3], five[4]);
        }
    }

    static int house(RelicHouse x, String text) {
        feed(x, text);
        return x.house(text.length());
    }

    static int law(RelicHouse x, String text) {
        feed(x, text);
        return x.law(text.length());
    }

    static int work(RelicHouse x, String text) {
        feed(x, text);
        return x.work(text.length());
    }

    static int seen(RelicHouse x, String text) {
        feed(x, text);
        return x.seen(text.length());
    }

    static RelicHouse with(String house) {
        RelicHouse x = new RelicHouse();
        if (house(x, house) < 0) {
            throw new AssertionError("the test's own house is faulty: " + house);
        }
        return x;
    }

    static void end(String name) {
        System.out.println(name + ": " + (made - wrong) + " of " + made + " answers are as due");
        if (wrong != 0) {
            System.exit(1);
        }
    }
}
