import java.util.ArrayList;
import java.util.List;
import java.util.NoSuchElementException;
import java.util.Random;

/** Runs of random calls, each answered by the class and by the model; the two must never differ. */
final class ModelTest {
    private static final int RUNS = 1500;
    private static final int CALLS = 400;

    interface Call {
        long answer();
    }

    private final Random random;
    private final int run;
    private final RelicHouse x = new RelicHouse();
    private final Model m = new Model();
    private final List<String> log = new ArrayList<>();
    private int calls;

    private ModelTest(int run) {
        this.run = run;
        this.random = new Random(run);
    }

    public static void main(String[] args) {
        int runs = args.length > 0 ? Integer.parseInt(args[0]) : RUNS;
        for (int run = 0; run < runs; run++) {
            new ModelTest(run).go();
        }
        System.out.println("ModelTest: " + runs + " runs agree");
    }

    private void go() {
        while (calls < CALLS) {
            int pick = random.nextInt(100);
            if (calls < 60 && m.relics.isEmpty() || pick < 1) {
                text("house", houseText(), 600);
            } else if (pick < 4) {
                text("law", lawText(), 150);
            } else if (pick < 11) {
                text("work", workText(), 150);
            } else if (pick < 15) {
                text("seen", seenText(), 60);
            } else if (pick < 18) {
                stack();
            } else {
                question();
            }
        }
    }

    private int below(int n) {
        return random.nextInt(n);
    }

    /** Mostly within, now and then at the edges or far outside. */
    private int near(int least, int most) {
        int pick = below(40);
        if (pick == 0) {
            return least - 1;
        }
        if (pick == 1) {
            return most + 1;
        }
        if (pick == 2) {
            int[] far = {Integer.MIN_VALUE, Integer.MAX_VALUE, -77, 1 << 16, random.nextInt()};
            return far[below(far.length)];
        }
        if (pick < 6) {
            return pick == 3 ? least : most;
        }
        return most < least ? least : least + below(most - least + 1);
    }

    private void both(String name, Call real, Call model) {
        String got = told(real);
        String due = told(model);
        calls++;
        log.add(name + " => " + got);
        if (!got.equals(due)) {
            System.out.println("run " + run + ": " + name + " answered " + got + ", due is " + due);
            for (String line : log) {
                System.out.println("    " + line);
            }
            System.exit(1);
        }
    }

    private static String told(Call call) {
        try {
            return String.valueOf(call.answer());
        } catch (NoSuchElementException e) {
            return e.getClass() == NoSuchElementException.class ? "NoSuchElement" : e.toString();
        } catch (IllegalArgumentException e) {
            return e.getClass() == IllegalArgumentException.class ? "IllegalArgument" : e.toString();
        } catch (RuntimeException e) {
            return "machine: " + e;
        }
    }

    // ---- texts

    private void text(String kind, String text, int most) {
        String s = below(4) == 0 ? spoiled(text) : text;
        s = s.length() > 600 ? s.substring(0, 600) : s;
        int[] words = new int[(s.length() + 19) / 20 * 5];
        for (int i = 0; i < s.length(); i++) {
            words[i / 4] |= (s.charAt(i) & 255) << 24 - 8 * (i % 4);
        }
        for (int i = 0; i < words.length; i += 5) {
            int k = i;
            both("feed '" + s.substring(i * 4, Math.min(s.length(), i * 4 + 20)) + "'",
                    () -> x.feed(words[k], words[k + 1], words[k + 2], words[k + 3], words[k + 4]),
                    () -> m.feed(words[k], words[k + 1], words[k + 2], words[k + 3], words[k + 4]));
        }
        int n = below(60) == 0 ? near(0, Math.min(most, words.length * 4)) : s.length();
        both(kind + "(" + n + ")", () -> read(kind, n), () -> readModel(kind, n));
        both("fault()", () -> x.fault(), () -> m.faultPlace);
        both("count(1)", () -> x.count(1), () -> m.count(1));
        if (m.tape.size() > 500) {
            both("law(0)", () -> x.law(0), () -> m.law(0));
        }
    }

    private long read(String kind, int n) {
        return switch (kind) {
            case "house" -> x.house(n);
            case "law" -> x.law(n);
            case "work" -> x.work(n);
            default -> x.seen(n);
        };
    }

    private long readModel(String kind, int n) {
        return switch (kind) {
            case "house" -> m.house(n);
            case "law" -> m.law(n);
            case "work" -> m.work(n);
            default -> m.seen(n);
        };
    }

    private String spoiled(String s) {
        StringBuilder b = new StringBuilder(s);
        for (int k = below(2); k >= 0; k--) {
            int at = below(b.length() + 1);
            String[] bits = {" ", ";", "[", "]", "(", ")", ",", "+", "-", "*", "/", "%", "7", "0", "99", "1000000000000",
                "x", "day", "again 1 [", "least", "most[", "sister", "vow 0 0;", "\0", "\u00e9", "\u00ff", "D", "relic"};
            int how = below(3);
            if (how == 0) {
                b.insert(at, bits[below(bits.length)]);
            } else if (how == 1 && at < b.length()) {
                b.deleteCharAt(at);
            } else {
                b.setLength(at);
            }
        }
        return b.toString();
    }

    private String blank() {
        return below(6) == 0 ? "  " : "";
    }

    private String houseText() {
        StringBuilder b = new StringBuilder();
        int sisters = below(10) == 0 ? below(10) : 1 + below(6);
        int relics = sisters == 0 ? 0 : below(10) == 0 ? below(12) : 1 + below(8);
        int pilgrims = below(10) == 0 ? below(10) : 1 + below(6);
        int ills = 1 + below(6);
        int vows = sisters == 0 ? 0 : below(20) == 0 ? 60 : below(8);
        for (int i = 0; i < sisters; i++) {
            b.append(blank()).append("sister ").append(below(16)).append(blank()).append(';');
        }
        for (int i = 0; i < relics; i++) {
            b.append("relic ").append(below(sisters)).append(' ').append(below(ills)).append(blank()).append(' ')
                    .append(1 + below(30)).append(';');
        }
        for (int i = 0; i < pilgrims; i++) {
            b.append("pilgrim").append(below(ills)).append(' ').append(1 + below(below(3) == 0 ? 99 : 30)).append(';');
        }
        for (int i = 0; i < vows; i++) {
            b.append("vow").append(below(sisters)).append(' ').append(below(sisters)).append(';');
        }
        return b.append(blank()).toString();
    }

    private String lawText() {
        if (below(4) == 0) {
            String[] plain = {"worth + days - lapses * 3", "30 - days", "worth * 2 - days * 3 + lapses % 2 * 9",
                "days % 7 * 5 + ill", "most [ worth , days * 2 ] - lapses", "day / 2 + others * 4 - sister", "0", "999",
                "worth - 31", "days * days * days * days * days * days * 999999", "lapses % 5 * 3 + worth"};
            return plain[below(plain.length)];
        }
        return expression(below(4));
    }

    private String expression(int depth) {
        StringBuilder b = new StringBuilder(unit(depth));
        for (int k = below(3); k > 0; k--) {
            b.append(blank()).append("+-*/%".charAt(below(5))).append(blank()).append(unit(depth));
        }
        return b.toString();
    }

    private String unit(int depth) {
        if (depth > 0 && below(3) == 0) {
            int pick = below(3);
            return pick == 0 ? "(" + expression(depth - 1) + ")"
                    : (pick == 1 ? "least" : "most") + blank() + "[" + expression(depth - 1) + "," + expression(depth - 1) + "]";
        }
        String[] words = {"worth", "days", "lapses", "tempted", "ill", "others", "sister", "day"};
        if (below(200) == 0) {
            return "((((((" + words[below(8)] + "))))))";
        }
        return below(3) == 0 ? String.valueOf(below(below(2) == 0 ? 10 : 1000)) : words[below(words.length)];
    }

    private String workText() {
        StringBuilder b = new StringBuilder();
        for (int k = 1 + below(12); k > 0; k--) {
            b.append(step(below(3)));
        }
        return b.length() > 150 ? b.substring(0, b.lastIndexOf(";", 149) + 1) : b.toString();
    }

    private String step(int depth) {
        int r = m.relics.isEmpty() ? 1 : m.relics.size();
        int s = m.t.isEmpty() ? 1 : m.t.size();
        int p = m.pilgrims.isEmpty() ? 1 : m.pilgrims.size();
        int pick = below(30);
        if (pick < 11) {
            return "give " + below(r) + blank() + ";";
        }
        if (pick < 12) {
            return "back " + below(r) + ";";
        }
        if (pick < 15) {
            return "lapse " + below(s) + ";";
        }
        if (pick < 19) {
            return "cure " + below(r) + " " + below(p) + ";";
        }
        if (pick == 19 && below(6) == 0) {
            return "die" + below(s) + ";";
        }
        if (pick < 24 || depth == 0) {
            return blank() + "day;";
        }
        StringBuilder b = new StringBuilder("again ").append(below(41)).append("[");
        for (int k = below(4); k > 0; k--) {
            b.append(step(depth - 1));
        }
        return b.append("];").toString();
    }

    private String seenText() {
        StringBuilder b = new StringBuilder();
        Model.State z = m.now;
        for (int s = 0; s < m.t.size(); s++) {
            if (below(2) == 0) {
                Model.State after = z.copy();
                m.doStep(after, "lapse", s, 0);
                z = after;
            }
        }
        for (int r = 0; r < m.relics.size(); r++) {
            if (below(4) == 0) {
                b.append(r).append(' ').append(below(8) == 0 ? below(100) : m.power(z, r)).append(blank()).append(';');
            }
        }
        return b.toString();
    }

    // ---- calls without a text

    private void stack() {
        int pick = below(3);
        if (pick == 0) {
            both("undo()", () -> x.undo(), () -> m.undo());
        } else if (pick == 1) {
            both("image()", () -> x.image(), () -> m.image());
        } else {
            both("restore()", () -> x.restore(), () -> m.restore());
        }
        both("told(9)", () -> x.told(9), () -> m.told(9));
    }

    private void question() {
        int s = near(0, m.t.size() - 1);
        int r = near(0, m.relics.size() - 1);
        int p = near(0, m.pilgrims.size() - 1);
        int pick = below(40);
        if (pick < 14) {
            askOne(pick, s, r, p);
        } else if (pick < 27) {
            askTwo(pick, s, r, p);
        } else {
            askThree(pick, s, r, p);
        }
    }

    private void askOne(int pick, int s, int r, int p) {
        int what = near(0, 5);
        switch (pick) {
            case 0, 1, 2 -> {
                int w = near(0, 10);
                both("told(" + w + ")", () -> x.told(w), () -> m.told(w));
            }
            case 3, 4 -> both("sister(" + s + "," + what + ")", () -> x.sister(s, what), () -> m.sister(s, what));
            case 5, 6 -> both("relic(" + r + "," + what + ")", () -> x.relic(r, what), () -> m.relic(r, what));
            case 7, 8 -> both("pilgrim(" + p + "," + what + ")", () -> x.pilgrim(p, what), () -> m.pilgrim(p, what));
            case 9 -> both("can(" + r + "," + p + ")", () -> x.can(r, p) ? 1 : 0, () -> m.can(r, p) ? 1 : 0);
            case 10, 11 -> both("when(" + r + "," + p + ")", () -> x.when(r, p), () -> m.when(r, p));
            default -> {
                int n = near(0, 99);
                int w = near(0, 1);
                both("ahead(" + r + "," + n + "," + w + ")", () -> x.ahead(r, n, w), () -> m.ahead(r, n, w));
            }
        }
    }

    private void askTwo(int pick, int s, int r, int p) {
        int w1 = near(0, 1);
        int w2 = near(0, 2);
        switch (pick) {
            case 14 -> both("match()", () -> x.match(), () -> m.match());
            case 15, 16 -> both("matched(" + p + ")", () -> x.matched(p), () -> m.matched(p));
            case 17, 18 -> both("lapsed(" + w2 + ")", () -> x.lapsed(w2), () -> m.lapsed(w2));
            case 19, 20 -> both("ask(" + w1 + ")", () -> x.ask(w1), () -> m.ask(w1));
            case 21, 22 -> {
                int n = near(0, 6);
                both("best(" + r + "," + n + "," + w1 + ")", () -> x.best(r, n, w1), () -> m.best(r, n, w1));
            }
            case 23 -> {
                int n = near(0, 12);
                both("without(" + s + "," + n + "," + w1 + ")", () -> x.without(s, n, w1), () -> m.without(s, n, w1));
            }
            case 24 -> both("ring(" + s + ")", () -> x.ring(s), () -> m.ring(s));
            case 25 -> {
                int n = below(3) == 0 ? near(0, 1000000) : near(0, 20);
                both("follows(" + s + "," + n + ")", () -> x.follows(s, n), () -> m.follows(s, n));
            }
            default -> {
                int v = near(0, 99);
                int w = below(3) == 0 ? v : near(0, 99);
                both("tempted(" + v + "," + w + "," + w2 + ")", () -> x.tempted(v, w, w2), () -> m.tempted(v, w, w2));
            }
        }
    }

    private void askThree(int pick, int s, int r, int p) {
        int w1 = near(0, 1);
        int w2 = near(0, 3);
        int days = near(1, 96);
        int seed = below(2) == 0 ? below(100) : random.nextInt();
        switch (pick) {
            case 27 -> {
                int set = near(0, (1 << m.pilgrims.size()) - 1);
                int n = near(0, below(2) == 0 ? 999 : 99);
                both("alms(" + p + "," + set + "," + n + ")", () -> x.alms(p, set, n), () -> m.alms(p, set, n));
            }
            case 28 -> both("strongest(" + w1 + ")", () -> x.strongest(w1), () -> m.strongest(w1));
            case 29 -> both("bare()", () -> x.bare(), () -> m.bare());
            case 30 -> {
                int n = near(0, 99);
                both("hopeless(" + n + ")", () -> x.hopeless(n), () -> m.hopeless(n));
            }
            case 31 -> both("eldest(" + w1 + ")", () -> x.eldest(w1), () -> m.eldest(w1));
            case 32 -> {
                both("idle()", () -> x.idle(), () -> m.idle());
                int k = near(0, 5);
                both("needs(" + k + ")", () -> x.needs(k), () -> m.needs(k));
            }
            case 33 -> both("strength(" + s + ")", () -> x.strength(s), () -> m.strength(s));
            case 34 -> both("weakest(" + w1 + ")", () -> x.weakest(w1), () -> m.weakest(w1));
            case 35, 36 -> both("year(" + seed + "," + days + "," + w2 + ")", () -> x.year(seed, days, w2),
                    () -> m.year(seed, days, w2));
            case 37 -> {
                int many = near(1, 20);
                int w = near(0, 2);
                both("span(" + seed + "," + many + "," + days + "," + w + "," + p + ")",
                        () -> x.span(seed, many, days, w, p), () -> m.span(seed, many, days, w, p));
            }
            case 38 -> {
                both("status(" + w2 + ")", () -> x.status(w2), () -> m.status(w2));
                both("count(" + w2 + ")", () -> x.count(w2), () -> m.count(w2));
            }
            default -> askWould();
        }
    }

    private void askWould() {
        int[] v = {near(1, 30), near(0, 999), near(0, 999), near(0, 15), near(0, 5), near(0, 9), near(0, 7), near(0, 500)};
        both("would" + java.util.Arrays.toString(v), () -> x.would(v[0], v[1], v[2], v[3], v[4], v[5], v[6], v[7]),
                () -> m.would(v));
    }
}
