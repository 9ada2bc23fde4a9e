import java.math.BigInteger;
import java.util.ArrayList;
import java.util.HashMap;
import java.util.HashSet;
import java.util.List;
import java.util.Map;
import java.util.NoSuchElementException;
import java.util.Set;

/**
 * The document told a second time, by brute force and with the whole library: states are copied
 * and steps really done on the copies, so that it shares no short cut with the class.
 */
final class Model {
    static final class Fault extends RuntimeException {
        private static final long serialVersionUID = 1L;
        final int kind;
        final int place;

        Fault(int kind, int place) {
            this.kind = kind;
            this.place = place;
        }
    }

    interface Expr {
        int of(int[] v);
    }

    static final class Step {
        String verb;
        int a;
        int b;
        List<Step> body;
    }

    static final class State implements Cloneable {
        int day;
        boolean[] dead;
        Integer[] days;
        int[] lapses;
        int[] by;
        boolean[] used;

        State copy() {
            State s = new State();
            s.day = day;
            s.dead = dead.clone();
            s.days = days.clone();
            s.lapses = lapses.clone();
            s.by = by.clone();
            s.used = used.clone();
            return s;
        }
    }

    static final class Image {
        State state;
        List<State> past;
    }

    final List<Integer> tape = new ArrayList<>();
    List<Integer> t = new ArrayList<>();
    Map<Integer, Integer> vows = new HashMap<>();
    List<int[]> relics = new ArrayList<>();
    List<int[]> pilgrims = new ArrayList<>();
    Expr law;
    State now;
    List<State> past = new ArrayList<>();
    List<Image> images = new ArrayList<>();
    Map<Integer, Integer> seen = new HashMap<>();
    int faultPlace = -1;
    int refused;
    int nse;
    int iae;

    Model() {
        now = fresh();
        law = plain();
    }

    static Expr plain() {
        return v -> v[0] + v[1] - v[2] * 2;
    }

    State fresh() {
        State s = new State();
        s.dead = new boolean[t.size()];
        s.days = new Integer[relics.size()];
        s.lapses = new int[t.size()];
        s.by = new int[pilgrims.size()];
        java.util.Arrays.fill(s.by, -1);
        s.used = new boolean[relics.size()];
        return s;
    }

    void arg(boolean ok) {
        if (!ok) {
            iae++;
            throw new IllegalArgumentException();
        }
    }

    void elem(boolean ok) {
        if (!ok) {
            nse++;
            throw new NoSuchElementException();
        }
    }

    boolean isSister(int s) {
        return 0 <= s && s < t.size();
    }

    boolean isRelic(int r) {
        return 0 <= r && r < relics.size();
    }

    boolean isPilgrim(int p) {
        return 0 <= p && p < pilgrims.size();
    }

    // ---- texts

    /** A text, cut by hand; every method throws the first fault that it meets. */
    static final class Text {
        final String s;
        int i;
        int start;

        Text(String s) {
            this.s = s;
        }

        void blanks() {
            while (i < s.length() && s.charAt(i) == ' ') {
                i++;
            }
            start = i;
        }

        boolean atEnd() {
            blanks();
            return i == s.length();
        }

        boolean is(char c) {
            blanks();
            return i < s.length() && s.charAt(i) == c;
        }

        void sign(char c) {
            if (!is(c)) {
                throw new Fault(1, i);
            }
            i++;
        }

        String run(String of) {
            blanks();
            int j = i;
            while (j < s.length() && of.indexOf(s.charAt(j)) >= 0) {
                j++;
            }
            if (j == i) {
                throw new Fault(1, i);
            }
            String r = s.substring(i, j);
            i = j;
            return r;
        }

        int num(int lo, int hi) {
            BigInteger b = new BigInteger(run("0123456789"));
            if (b.compareTo(BigInteger.valueOf(lo)) < 0 || b.compareTo(BigInteger.valueOf(hi)) > 0) {
                throw new Fault(2, start);
            }
            return b.intValue();
        }

        String word(String... ok) {
            String w = run("abcdefghijklmnopqrstuvwxyz");
            for (String o : ok) {
                if (o.equals(w)) {
                    return w;
                }
            }
            throw new Fault(1, start);
        }
    }

    Text open(int n, int most) {
        arg(n >= 0 && n <= tape.size() && n <= most);
        StringBuilder b = new StringBuilder();
        for (int i = 0; i < n; i++) {
            b.append((char) (int) tape.get(i));
        }
        tape.clear();
        faultPlace = -1;
        return new Text(b.toString());
    }

    int failed(Fault f) {
        faultPlace = f.place;
        return f.kind - 10;
    }

    int feed(int... five) {
        if (tape.size() + 20 > 600) {
            return -1;
        }
        for (int x : five) {
            for (int k = 3; k >= 0; k--) {
                tape.add(x >>> 8 * k & 255);
            }
        }
        return tape.size();
    }

    int house(int n) {
        Text x = open(n, 600);
        List<Integer> t2 = new ArrayList<>();
        List<int[]> r2 = new ArrayList<>();
        List<int[]> p2 = new ArrayList<>();
        Map<Integer, Integer> v2 = new HashMap<>();
        try {
            int clauses = 0;
            while (!x.atEnd()) {
                String w = x.word("sister", "relic", "pilgrim", "vow");
                if (clauses == 60 || w.equals("sister") && t2.size() == 8 || w.equals("relic") && r2.size() == 10
                        || w.equals("pilgrim") && p2.size() == 8) {
                    throw new Fault(3, x.start);
                }
                clauses++;
                if (w.equals("sister")) {
                    t2.add(x.num(0, 15));
                } else if (w.equals("relic")) {
                    r2.add(new int[] {x.num(0, t2.size() - 1), x.num(0, 5), x.num(1, 30)});
                } else if (w.equals("pilgrim")) {
                    p2.add(new int[] {x.num(0, 5), x.num(1, 99)});
                } else {
                    int a = x.num(0, t2.size() - 1);
                    v2.put(a, x.num(0, t2.size() - 1));
                }
                x.sign(';');
            }
        } catch (Fault f) {
            return failed(f);
        }
        t = t2;
        relics = r2;
        pilgrims = p2;
        vows = v2;
        law = plain();
        now = fresh();
        past.clear();
        images.clear();
        seen.clear();
        refused = 0;
        return relics.size();
    }

    int law(int n) {
        Text x = open(n, 150);
        try {
            Expr e = sum(x, 0);
            if (!x.atEnd()) {
                throw new Fault(1, x.i);
            }
            law = e;
            return 1;
        } catch (Fault f) {
            return failed(f);
        }
    }

    Expr sum(Text x, int open) {
        Expr left = product(x, open);
        while (x.is('+') || x.is('-')) {
            char c = x.s.charAt(x.i++);
            Expr a = left;
            Expr b = product(x, open);
            left = c == '+' ? v -> a.of(v) + b.of(v) : v -> a.of(v) - b.of(v);
        }
        return left;
    }

    Expr product(Text x, int open) {
        Expr left = unit(x, open);
        while (x.is('*') || x.is('/') || x.is('%')) {
            char c = x.s.charAt(x.i++);
            Expr a = left;
            Expr b = unit(x, open);
            left = v -> {
                long p = a.of(v);
                long q = b.of(v);
                return c == '*' ? (int) (p * q) : q == 0 ? 0 : c == '/' ? (int) (p / q) : (int) (p % q);
            };
        }
        return left;
    }

    Expr unit(Text x, int open) {
        x.blanks();
        if (x.i < x.s.length() && Character.isDigit(x.s.charAt(x.i))) {
            int n = x.num(0, 999);
            return v -> n;
        }
        if (x.is('(')) {
            if (open == 6) {
                throw new Fault(3, x.i);
            }
            x.sign('(');
            Expr e = sum(x, open + 1);
            x.sign(')');
            return e;
        }
        String[] names = {"worth", "days", "lapses", "tempted", "ill", "others", "sister", "day", "least", "most"};
        String w = x.word(names);
        if (w.equals("least") || w.equals("most")) {
            if (open == 6) {
                throw new Fault(3, x.start);
            }
            x.sign('[');
            Expr a = sum(x, open + 1);
            x.sign(',');
            Expr b = sum(x, open + 1);
            x.sign(']');
            return w.equals("least") ? v -> Math.min(a.of(v), b.of(v)) : v -> Math.max(a.of(v), b.of(v));
        }
        int k = List.of(names).indexOf(w);
        return v -> v[k];
    }

    List<Step> steps(Text x, int open) {
        List<Step> all = new ArrayList<>();
        while (open == 0 ? !x.atEnd() : !x.is(']')) {
            Step s = new Step();
            s.verb = x.word("give", "back", "lapse", "cure", "die", "day", "again");
            switch (s.verb) {
                case "give", "back" -> s.a = x.num(0, relics.size() - 1);
                case "lapse", "die" -> s.a = x.num(0, t.size() - 1);
                case "cure" -> {
                    s.a = x.num(0, relics.size() - 1);
                    s.b = x.num(0, pilgrims.size() - 1);
                }
                case "again" -> {
                    if (open == 6) {
                        throw new Fault(3, x.start);
                    }
                    s.a = x.num(0, 40);
                    x.sign('[');
                    s.body = steps(x, open + 1);
                    x.sign(']');
                }
                default -> { }
            }
            x.sign(';');
            all.add(s);
        }
        return all;
    }

    int begun;
    int done;

    int work(int n) {
        Text x = open(n, 150);
        if (past.size() == 16) {
            return -20;
        }
        List<Step> all;
        try {
            all = steps(x, 0);
        } catch (Fault f) {
            return failed(f);
        }
        past.add(now.copy());
        begun = 0;
        done = 0;
        refused = 0;
        run(all);
        return done;
    }

    void run(List<Step> all) {
        for (Step s : all) {
            if (begun == 200) {
                return;
            }
            begun++;
            if (s.verb.equals("again")) {
                for (int i = 0; i < s.a; i++) {
                    run(s.body);
                }
            } else if (s.verb.equals("day") ? now.day < 500 && doStep(now, s.verb, 0, 0) : doStep(now, s.verb, s.a, s.b)) {
                done++;
            } else {
                refused++;
            }
        }
    }

    boolean keeps(State z, int s) {
        for (int r = 0; r < relics.size(); r++) {
            if (relics.get(r)[0] == s && z.days[r] != null) {
                return true;
            }
        }
        return false;
    }

    boolean doStep(State z, String verb, int a, int b) {
        switch (verb) {
            case "give":
                if (z.days[a] != null || z.dead[relics.get(a)[0]]) {
                    return false;
                }
                z.days[a] = 0;
                return true;
            case "back":
                if (z.days[a] == null) {
                    return false;
                }
                z.days[a] = null;
                return true;
            case "lapse":
                if (z.dead[a] || !keeps(z, a)) {
                    return false;
                }
                z.lapses[a]++;
                for (int r = 0; r < relics.size(); r++) {
                    if (relics.get(r)[0] == a && z.days[r] != null) {
                        z.days[r] = z.days[r] / 2;
                    }
                }
                return true;
            case "cure":
                if (z.by[b] != -1 || z.used[a] || relics.get(a)[1] != pilgrims.get(b)[0]
                        || power(z, a) < pilgrims.get(b)[1]) {
                    return false;
                }
                z.by[b] = a;
                z.used[a] = true;
                return true;
            case "die":
                if (z.dead[a]) {
                    return false;
                }
                z.dead[a] = true;
                for (int r = 0; r < relics.size(); r++) {
                    if (relics.get(r)[0] == a) {
                        z.days[r] = null;
                    }
                }
                return true;
            default:
                for (int r = 0; r < relics.size(); r++) {
                    if (z.days[r] != null) {
                        z.days[r]++;
                    }
                }
                java.util.Arrays.fill(z.used, false);
                z.day++;
                return true;
        }
    }

    int clamp(int v) {
        return v < 0 ? 0 : v > 99 ? 99 : v;
    }

    int power(State z, int r) {
        if (z.days[r] == null) {
            return 0;
        }
        int[] c = relics.get(r);
        int others = 0;
        for (int q = 0; q < relics.size(); q++) {
            if (q != r && relics.get(q)[0] == c[0] && z.days[q] != null) {
                others++;
            }
        }
        return clamp(law.of(new int[] {c[2], z.days[r], z.lapses[c[0]], t.get(c[0]), c[1], others, c[0], z.day}));
    }

    int seen(int n) {
        Text x = open(n, 60);
        Map<Integer, Integer> m = new HashMap<>();
        try {
            while (!x.atEnd()) {
                int r = x.num(0, relics.size() - 1);
                if (m.containsKey(r)) {
                    throw new Fault(2, x.start);
                }
                m.put(r, x.num(0, 99));
                x.sign(';');
            }
        } catch (Fault f) {
            return failed(f);
        }
        seen = m;
        return m.size();
    }

    int undo() {
        if (past.isEmpty()) {
            return -1;
        }
        now = past.remove(past.size() - 1).copy();
        refused = 0;
        return past.size();
    }

    // ---- what is asked

    interface Yes {
        boolean of(int i);
    }

    int bits(int n, Yes y) {
        int b = 0;
        for (int i = 0; i < n; i++) {
            if (y.of(i)) {
                b |= 1 << i;
            }
        }
        return b;
    }

    State later(State z, int n) {
        State q = z.copy();
        for (int i = 0; i < n; i++) {
            doStep(q, "day", 0, 0);
        }
        return q;
    }

    boolean can(State z, int r, int p) {
        return relics.get(r)[1] == pilgrims.get(p)[0] && power(z, r) >= pilgrims.get(p)[1];
    }

    int all(State z) {
        int sum = 0;
        for (int r = 0; r < relics.size(); r++) {
            sum += power(z, r);
        }
        return sum;
    }

    int told(int what) {
        arg(what >= 0 && what <= 10);
        return switch (what) {
            case 0 -> t.size();
            case 1 -> relics.size();
            case 2 -> pilgrims.size();
            case 3 -> now.day;
            case 4 -> bits(t.size(), s -> !now.dead[s]);
            case 5 -> bits(relics.size(), r -> now.days[r] != null);
            case 6 -> bits(pilgrims.size(), p -> now.by[p] != -1);
            case 7 -> bits(relics.size(), r -> now.used[r]);
            case 8 -> seen.size();
            case 9 -> refused;
            default -> all(now);
        };
    }

    int sister(int s, int what) {
        elem(isSister(s));
        arg(what >= 0 && what <= 4);
        return switch (what) {
            case 0 -> t.get(s);
            case 1 -> now.lapses[s];
            case 2 -> bits(relics.size(), r -> relics.get(r)[0] == s);
            case 3 -> bits(relics.size(), r -> relics.get(r)[0] == s && now.days[r] != null);
            default -> vows.getOrDefault(s, -1);
        };
    }

    int relic(int r, int what) {
        elem(isRelic(r));
        arg(what >= 0 && what <= 5);
        return switch (what) {
            case 0, 1, 2 -> relics.get(r)[what];
            case 3 -> now.days[r] == null ? -1 : now.days[r];
            case 4 -> power(now, r);
            default -> bits(pilgrims.size(), p -> now.by[p] == -1 && can(now, r, p));
        };
    }

    int pilgrim(int p, int what) {
        elem(isPilgrim(p));
        arg(what >= 0 && what <= 3);
        return switch (what) {
            case 0, 1 -> pilgrims.get(p)[what];
            case 2 -> now.by[p];
            default -> bits(relics.size(), r -> can(now, r, p));
        };
    }

    int would(int... v) {
        int[] lo = {1, 0, 0, 0, 0, 0, 0, 0};
        int[] hi = {30, 999, 999, 15, 5, 9, 7, 500};
        for (int i = 0; i < 8; i++) {
            arg(v[i] >= lo[i] && v[i] <= hi[i]);
        }
        return clamp(law.of(v));
    }

    boolean can(int r, int p) {
        elem(isRelic(r) && isPilgrim(p));
        return doStep(now.copy(), "cure", r, p);
    }

    int when(int r, int p) {
        elem(isRelic(r) && isPilgrim(p));
        for (int d = 0; d <= 200; d++) {
            if (can(later(now, d), r, p)) {
                return d;
            }
        }
        return -1;
    }

    int ahead(int r, int n, int what) {
        elem(isRelic(r));
        arg(n >= 0 && n <= 99 && (what == 0 || what == 1));
        State z = now.copy();
        if (what == 1) {
            doStep(z, "lapse", relics.get(r)[0], 0);
        }
        return power(later(z, n), r);
    }

    int[] bestWay;
    int bestMany;

    void ways(int p, int[] way, int many, Set<Integer> taken) {
        if (p == pilgrims.size()) {
            if (many > bestMany) {
                bestMany = many;
                bestWay = way.clone();
            }
            return;
        }
        // the first way that is met among those of most pilgrims is the first one asked for
        for (int r = 0; r < relics.size(); r++) {
            if (now.by[p] == -1 && !now.used[r] && !taken.contains(r) && can(now, r, p)) {
                taken.add(r);
                way[p] = r;
                ways(p + 1, way, many + 1, taken);
                taken.remove(r);
            }
        }
        way[p] = -1;
        ways(p + 1, way, many, taken);
    }

    int match() {
        bestMany = -1;
        ways(0, new int[pilgrims.size()], 0, new HashSet<>());
        return bestMany;
    }

    int matched(int p) {
        elem(isPilgrim(p));
        match();
        return bestWay[p];
    }

    State afterLapses(int set) {
        State z = now.copy();
        for (int s = 0; s < t.size(); s++) {
            if ((set >> s & 1) != 0 && !doStep(z, "lapse", s, 0)) {
                return null;
            }
        }
        return z;
    }

    List<Integer> sets() {
        List<Integer> found = new ArrayList<>();
        for (int set = 0; set < 1 << t.size(); set++) {
            State z = afterLapses(set);
            if (z == null) {
                continue;
            }
            boolean fits = true;
            for (Map.Entry<Integer, Integer> line : seen.entrySet()) {
                fits &= power(z, line.getKey()) == line.getValue();
            }
            if (fits) {
                found.add(set);
            }
        }
        return found;
    }

    int lapsed(int what) {
        arg(what >= 0 && what <= 2);
        List<Integer> f = sets();
        if (what == 0) {
            return f.size();
        }
        if (f.isEmpty()) {
            return what == 1 ? -1 : 0;
        }
        int and = -1;
        for (int set : f) {
            and &= set;
        }
        return what == 1 ? f.get(0) : and;
    }

    int ask(int what) {
        arg(what == 0 || what == 1);
        int relic = -1;
        int least = -1;
        List<Integer> f = sets();
        for (int r = 0; r < relics.size(); r++) {
            if (seen.containsKey(r)) {
                continue;
            }
            Map<Integer, Integer> by = new HashMap<>();
            int worst = 0;
            for (int set : f) {
                worst = Math.max(worst, by.merge(power(afterLapses(set), r), 1, Integer::sum));
            }
            if (relic == -1 || worst < least) {
                relic = r;
                least = worst;
            }
        }
        return what == 0 ? relic : least;
    }

    /** A fraction in least terms. */
    static BigInteger[] frac(BigInteger a, BigInteger b) {
        BigInteger g = a.gcd(b);
        return new BigInteger[] {a.divide(g), b.divide(g)};
    }

    BigInteger[] mean(State z, int r, int n) {
        BigInteger[] stop = frac(BigInteger.valueOf(power(z, r)), BigInteger.ONE);
        if (n == 0) {
            return stop;
        }
        int s = relics.get(r)[0];
        State lapse = z.copy();
        doStep(lapse, "lapse", s, 0);
        BigInteger[] a = mean(later(lapse, 1), r, n - 1);
        BigInteger[] b = mean(later(z, 1), r, n - 1);
        BigInteger top = a[0].multiply(b[1]).multiply(BigInteger.valueOf(t.get(s)))
                .add(b[0].multiply(a[1]).multiply(BigInteger.valueOf(16 - t.get(s))));
        BigInteger[] go = frac(top, a[1].multiply(b[1]).multiply(BigInteger.valueOf(16)));
        return stop[0].multiply(go[1]).compareTo(go[0].multiply(stop[1])) >= 0 ? stop : go;
    }

    long best(int r, int n, int part) {
        elem(isRelic(r));
        arg(n >= 0 && n <= 6 && (part == 0 || part == 1));
        return mean(now, r, n)[part].longValueExact();
    }

    long without(int s, int n, int part) {
        elem(isSister(s));
        arg(n >= 0 && n <= 12 && (part == 0 || part == 1));
        return frac(BigInteger.valueOf(16 - t.get(s)).pow(n), BigInteger.valueOf(16).pow(n))[part].longValueExact();
    }

    int ring(int s) {
        elem(isSister(s));
        int at = s;
        for (int k = 1; k < 99; k++) {
            at = vows.getOrDefault(at, -1);
            if (at == s) {
                return k;
            }
        }
        return -1;
    }

    int follows(int s, int n) {
        elem(isSister(s));
        arg(n >= 0 && n <= 1000000);
        int at = s;
        for (int k = 0; k < n && at != -1; k++) {
            at = vows.getOrDefault(at, -1);
        }
        return at;
    }

    int tempted(int v, int w, int what) {
        arg(v >= 0 && v <= 99 && w >= 0 && w <= 99 && what >= 0 && what <= 2);
        int[][][] has = {{{v, v}, {-1, w}}, {{w, -1}, {0, 0}}};
        int n = 0;
        int first = -1;
        int sum = 0;
        for (int i = 0; i < 2; i++) {
            for (int j = 0; j < 2; j++) {
                if (has[1 - i][j][0] <= has[i][j][0] && has[i][1 - j][1] <= has[i][j][1]) {
                    if (n++ == 0) {
                        first = 10 * i + j;
                        sum = has[i][j][0] + has[i][j][1];
                    }
                }
            }
        }
        return what == 0 ? n : what == 1 ? first : sum;
    }

    int alms(int p, int set, int n) {
        elem(isPilgrim(p));
        arg(set >= 0 && set < 1 << pilgrims.size() && n >= 0 && n <= 999);
        if ((set >> p & 1) == 0) {
            return 0;
        }
        // one coin after the other: a round goes to all who still need, while it can be paid whole
        int[] got = new int[pilgrims.size()];
        int left = n;
        for (int round = 0; round < 99; round++) {
            int asking = bits(got.length, q -> (set >> q & 1) != 0 && got[q] < pilgrims.get(q)[1]);
            if (Integer.bitCount(asking) > left) {
                break;
            }
            left -= Integer.bitCount(asking);
            for (int q = 0; q < got.length; q++) {
                got[q] += asking >> q & 1;
            }
        }
        return got[p];
    }

    int strongest(int what) {
        arg(what == 0 || what == 1);
        int r = -1;
        int b = -1;
        for (int q = relics.size() - 1; q >= 0; q--) {
            if (now.days[q] != null && power(now, q) >= b) {
                r = q;
                b = power(now, q);
            }
        }
        return what == 0 ? r : b;
    }

    int bare() {
        return bits(6, k -> {
            for (int r = 0; r < relics.size(); r++) {
                if (relics.get(r)[1] == k && now.days[r] != null) {
                    return false;
                }
            }
            return true;
        });
    }

    int hopeless(int n) {
        arg(n >= 0 && n <= 99);
        State z = later(now, n);
        return bits(pilgrims.size(), p -> z.by[p] == -1 && bits(relics.size(), r -> can(z, r, p)) == 0);
    }

    int eldest(int what) {
        arg(what == 0 || what == 1);
        int r = -1;
        int b = -1;
        for (int q = relics.size() - 1; q >= 0; q--) {
            if (now.days[q] != null && now.days[q] >= b) {
                r = q;
                b = now.days[q];
            }
        }
        return what == 0 ? r : b;
    }

    int idle() {
        return bits(t.size(), s -> !now.dead[s] && !keeps(now, s));
    }

    int needs(int ill) {
        arg(ill >= 0 && ill <= 5);
        int sum = 0;
        for (int p = 0; p < pilgrims.size(); p++) {
            sum += now.by[p] == -1 && pilgrims.get(p)[0] == ill ? pilgrims.get(p)[1] : 0;
        }
        return sum;
    }

    int strength(int s) {
        elem(isSister(s));
        int sum = 0;
        for (int r = 0; r < relics.size(); r++) {
            sum += relics.get(r)[0] == s ? power(now, r) : 0;
        }
        return sum;
    }

    int weakest(int what) {
        arg(what == 0 || what == 1);
        int s = -1;
        int b = -1;
        for (int q = t.size() - 1; q >= 0; q--) {
            if (now.lapses[q] > 0 && now.lapses[q] >= b) {
                s = q;
                b = now.lapses[q];
            }
        }
        return what == 0 ? s : b;
    }

    int seed;

    int draw(int m) {
        long x = (seed & 0xffffffffL) * 1103515245L + 12345L;
        seed = (int) x;
        return (int) ((x >> 16 & 0x7fff) % m);
    }

    State yearEnd;

    /** How many were cured, and how many lapses there were. */
    int[] pass(int from, int days) {
        State z = now.copy();
        seed = from;
        int[] sums = new int[2];
        for (int d = 0; d < days; d++) {
            for (int s = 0; s < t.size(); s++) {
                if (!z.dead[s] && keeps(z, s) && draw(16) < t.get(s)) {
                    doStep(z, "lapse", s, 0);
                    sums[1]++;
                }
            }
            if (!relics.isEmpty() && !pilgrims.isEmpty()) {
                int r = draw(relics.size());
                int p = draw(pilgrims.size());
                sums[0] += doStep(z, "cure", r, p) ? 1 : 0;
            }
            doStep(z, "day", 0, 0);
        }
        yearEnd = z;
        return sums;
    }

    int year(int from, int days, int what) {
        arg(days >= 1 && days <= 96 && what >= 0 && what <= 3);
        int[] sums = pass(from, days);
        State z = yearEnd;
        return what < 2 ? sums[what] : what == 2 ? all(z) : bits(pilgrims.size(), p -> z.by[p] != -1);
    }

    int span(int from, int many, int days, int what, int p) {
        arg(many >= 1 && many <= 20 && days >= 1 && days <= 96 && what >= 0 && what <= 2 && isPilgrim(p));
        int lo = 99;
        int hi = -1;
        int times = 0;
        for (int i = 0; i < many; i++) {
            int c = pass(from + i, days)[0];
            lo = Math.min(lo, c);
            hi = Math.max(hi, c);
            times += yearEnd.by[p] != -1 ? 1 : 0;
        }
        return what == 0 ? lo : what == 1 ? hi : times;
    }

    int image() {
        if (images.size() == 3) {
            return -1;
        }
        Image i = new Image();
        i.state = now.copy();
        i.past = new ArrayList<>(past);
        images.add(i);
        return images.size();
    }

    int restore() {
        if (images.isEmpty()) {
            return -1;
        }
        Image i = images.remove(images.size() - 1);
        now = i.state;
        past = i.past;
        refused = 0;
        return images.size();
    }

    int status(int what) {
        return what == 0 ? nse : what == 1 ? iae : -1;
    }

    int count(int what) {
        return what == 0 ? images.size() : what == 1 ? tape.size() : what == 2 ? past.size() : -1;
    }
}
