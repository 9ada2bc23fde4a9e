import java.lang.reflect.InvocationTargetException;
import java.lang.reflect.Method;
import java.util.ArrayList;
import java.util.List;
import java.util.NoSuchElementException;

/**
 * Every argument that the document bounds, of every call: the least and the largest are answered,
 * one below and one above are refused, by the exception that the document names; a refused call
 * leaves all as it was and is counted once by status, and NoSuchElementException goes ahead.
 */
final class BoundsTest {
    private static final int ELEMENT = 0;
    private static final int ARGUMENT = 1;
    private static final int FREE = 2;

    private static final class Bound {
        final int least;
        final int most;
        final int kind;

        Bound(int least, int most, int kind) {
            this.least = least;
            this.most = most;
            this.kind = kind;
        }
    }

    private BoundsTest() {
    }

    public static void main(String[] args) throws ReflectiveOperationException {
        call(3, "house", argument(0, Twins.TAPE));
        call(4, "law", argument(0, Twins.TAPE));
        call(5, "work", argument(0, Twins.TAPE));
        call(6, "seen", argument(0, Twins.TAPE));
        call(9, "told", argument(0, 10));
        call(10, "sister", sister(), argument(0, 4));
        call(11, "relic", relic(), argument(0, 5));
        call(12, "pilgrim", pilgrim(), argument(0, 3));
        call(13, "would", argument(1, 30), argument(0, 999), argument(0, 999), argument(0, 15), argument(0, 5),
                argument(0, 9), argument(0, 7), argument(0, 500));
        call(14, "can", relic(), pilgrim());
        call(15, "when", relic(), pilgrim());
        call(16, "ahead", relic(), argument(0, 99), argument(0, 1));
        call(18, "matched", pilgrim());
        call(19, "lapsed", argument(0, 2));
        call(20, "ask", argument(0, 1));
        call(21, "best", relic(), argument(0, 6), argument(0, 1));
        call(22, "without", sister(), argument(0, 12), argument(0, 1));
        call(23, "ring", sister());
        call(24, "follows", sister(), argument(0, 1000000));
        call(25, "tempted", argument(0, 99), argument(0, 99), argument(0, 2));
        call(26, "alms", pilgrim(), argument(0, (1 << Twins.PILGRIMS) - 1), argument(0, 999));
        call(27, "strongest", argument(0, 1));
        call(29, "hopeless", argument(0, 99));
        call(30, "eldest", argument(0, 1));
        call(32, "needs", argument(0, 5));
        call(33, "strength", sister());
        call(34, "weakest", argument(0, 1));
        call(35, "year", free(), argument(1, 96), argument(0, 3));
        call(36, "span", free(), argument(1, 20), argument(1, 96), argument(0, 2), argument(0, Twins.PILGRIMS - 1));
        call(39, "status", free());
        call(40, "count", free());
        textsByLength();
        nobodyThere();
        Checks.end("BoundsTest");
    }

    private static Bound argument(int least, int most) {
        return new Bound(least, most, ARGUMENT);
    }

    private static Bound sister() {
        return new Bound(0, Twins.SISTERS - 1, ELEMENT);
    }

    private static Bound relic() {
        return new Bound(0, Twins.RELICS - 1, ELEMENT);
    }

    private static Bound pilgrim() {
        return new Bound(0, Twins.PILGRIMS - 1, ELEMENT);
    }

    private static Bound free() {
        return new Bound(Integer.MIN_VALUE, Integer.MAX_VALUE, FREE);
    }

    private static void call(int promise, String name, Bound... bounds) throws ReflectiveOperationException {
        Class<?>[] types = new Class<?>[bounds.length];
        java.util.Arrays.fill(types, int.class);
        Method method = RelicHouse.class.getMethod(name, types);
        String title = "Promise " + promise + ": " + name;
        for (int i = 0; i < bounds.length; i++) {
            answered(title, method, with(bounds, i, bounds[i].least));
            answered(title, method, with(bounds, i, bounds[i].most));
            if (bounds[i].kind != FREE) {
                for (int wrong : wrongOnes(bounds[i])) {
                    refused(title, method, with(bounds, i, wrong), bounds[i].kind);
                }
            }
        }
        twoWrong(title, method, bounds);
    }

    private static int[] wrongOnes(Bound b) {
        return new int[] {b.least - 1, b.most + 1, Integer.MIN_VALUE, Integer.MAX_VALUE};
    }

    /** All the others at their least. */
    private static Object[] with(Bound[] bounds, int which, int value) {
        Object[] args = new Object[bounds.length];
        for (int i = 0; i < bounds.length; i++) {
            args[i] = i == which ? value : bounds[i].kind == FREE ? 5 : bounds[i].least;
        }
        return args;
    }

    /** Each two of the arguments wrong at once: no such sister, relic or pilgrim goes ahead. */
    private static void twoWrong(String title, Method method, Bound[] bounds) throws ReflectiveOperationException {
        for (int i = 0; i < bounds.length; i++) {
            for (int j = i + 1; j < bounds.length; j++) {
                if (bounds[i].kind != FREE && bounds[j].kind != FREE) {
                    Object[] args = with(bounds, i, bounds[i].most + 1);
                    args[j] = bounds[j].most + 1;
                    refused(title, method, args, Math.min(bounds[i].kind, bounds[j].kind));
                }
            }
        }
    }

    private static String told(String title, Object[] args) {
        List<String> words = new ArrayList<>();
        for (Object a : args) {
            words.add(String.valueOf(a));
        }
        return title + "(" + String.join(", ", words) + ")";
    }

    private static Throwable thrown(Method method, RelicHouse x, Object[] args) throws ReflectiveOperationException {
        try {
            method.invoke(x, args);
            return null;
        } catch (InvocationTargetException e) {
            return e.getCause();
        }
    }

    private static void answered(String title, Method method, Object[] args) throws ReflectiveOperationException {
        RelicHouse x = Twins.rich();
        Throwable got = thrown(method, x, args);
        Checks.due(told(title, args) + " is answered, not " + got, got == null, true);
        Checks.due(told(title, args) + ": status(0)", x.status(0), 0);
        Checks.due(told(title, args) + ": status(1)", x.status(1), 0);
        if (!"house law work seen".contains(method.getName())) {
            Twins.leavesAll(told(title, args), x, Twins.rich());
        }
    }

    private static void refused(String title, Method method, Object[] args, int kind) throws ReflectiveOperationException {
        RelicHouse x = Twins.rich();
        String name = told(title, args);
        Throwable got = thrown(method, x, args);
        Class<?> due = kind == ELEMENT ? NoSuchElementException.class : IllegalArgumentException.class;
        Checks.due(name + " throws " + due.getSimpleName() + ", not " + got, got != null && got.getClass() == due, true);
        Checks.due(name + ": status(0)", x.status(0), kind == ELEMENT ? 1 : 0);
        Checks.due(name + ": status(1)", x.status(1), kind == ELEMENT ? 0 : 1);
        thrown(method, x, args);
        Checks.due(name + ": status of the second", x.status(kind), 2);
        Twins.leavesAll(name, x, Twins.rich());
    }

    /** A tape as full as it may be: then what each text may have bounds n. */
    private static void textsByLength() throws ReflectiveOperationException {
        String[] names = {"house", "law", "work", "seen"};
        int[] most = {600, 150, 150, 60};
        for (int i = 0; i < names.length; i++) {
            Method method = RelicHouse.class.getMethod(names[i], int.class);
            for (int n : new int[] {-1, most[i] + 1, 601}) {
                RelicHouse x = fullTape();
                String name = "Promise " + (3 + i) + ": " + names[i] + "(" + n + ") of a full tape";
                Throwable got = thrown(method, x, new Object[] {n});
                Checks.due(name + " throws", got != null && got.getClass() == IllegalArgumentException.class, true);
                Checks.due(name + ": the TAPE stays", x.count(1), 600);
                Checks.due(name + ": status(1)", x.status(1), 1);
            }
            RelicHouse x = fullTape();
            String name = "Promise " + (3 + i) + ": " + names[i] + "(" + most[i] + ") of a full tape";
            Checks.due(name + " is answered", thrown(method, x, new Object[] {most[i]}) == null, true);
            Checks.due(name + ": the TAPE is empty then", x.count(1), 0);
        }
    }

    private static RelicHouse fullTape() {
        RelicHouse x = new RelicHouse();
        Checks.feed(x, " ".repeat(600));
        return x;
    }

    /** In a new object there is no sister, relic or pilgrim, so that not even number 0 is one. */
    private static void nobodyThere() throws ReflectiveOperationException {
        String[] names = {"sister 2", "relic 2", "pilgrim 2", "can 2", "when 2", "ahead 3", "matched 1", "best 3",
            "without 3", "ring 1", "follows 2", "alms 3", "strength 1"};
        RelicHouse x = new RelicHouse();
        int many = 0;
        for (String row : names) {
            String name = row.substring(0, row.indexOf(' '));
            int count = row.charAt(row.length() - 1) - '0';
            Class<?>[] types = new Class<?>[count];
            java.util.Arrays.fill(types, int.class);
            Object[] args = new Object[count];
            java.util.Arrays.fill(args, 0);
            Throwable got = thrown(RelicHouse.class.getMethod(name, types), x, args);
            many++;
            Checks.due("new: " + name + " throws, not " + got,
                    got != null && got.getClass() == NoSuchElementException.class, true);
            Checks.due("new: status(0) behind " + name, x.status(0), many);
            Checks.due("new: status(1) behind " + name, x.status(1), 0);
        }
        // one who is there does not help, if the other one is not
        RelicHouse y = Checks.with("sister 0;relic 0 0 1;");
        Checks.noElement("Promise 14: can, without PILGRIMS", () -> y.can(0, 0) ? 1 : 0);
        Checks.noElement("Promise 15: when, without PILGRIMS", () -> y.when(0, 0));
        RelicHouse z = Checks.with("pilgrim 0 1;");
        Checks.noElement("Promise 14: can, without RELICS", () -> z.can(0, 0) ? 1 : 0);
        Checks.noElement("Promise 15: when, without RELICS", () -> z.when(0, 0));
        Checks.noArgument("Promise 36: span, without PILGRIMS", () -> y.span(1, 1, 1, 0, 0));
    }
}
