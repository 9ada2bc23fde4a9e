import java.io.IOException;
import java.lang.reflect.Array;
import java.lang.reflect.Constructor;
import java.lang.reflect.Field;
import java.lang.reflect.Method;
import java.lang.reflect.Modifier;
import java.nio.file.Files;
import java.nio.file.Path;
import java.util.ArrayDeque;
import java.util.Arrays;
import java.util.Deque;
import java.util.IdentityHashMap;
import java.util.Map;
import java.util.NoSuchElementException;
import java.util.Set;
import java.util.TreeSet;

/** The public face as the document has it, and those rules of LANGUAGE.md that can be seen from outside. */
final class FaceTest {
    /** What is answered, the name, how many arguments, and what is thrown: by no Element, by a wrong Argument. */
    private static final String FACE = "int feed 5 -;int house 1 A;int law 1 A;int work 1 A;int seen 1 A;int fault 0 -;"
            + "int undo 0 -;int told 1 A;int sister 2 EA;int relic 2 EA;int pilgrim 2 EA;int would 8 A;boolean can 2 E;"
            + "int when 2 E;int ahead 3 EA;int match 0 -;int matched 1 E;int lapsed 1 A;int ask 1 A;long best 3 EA;"
            + "long without 3 EA;int ring 1 E;int follows 2 EA;int tempted 3 A;int alms 3 EA;int strongest 1 A;"
            + "int bare 0 -;int hopeless 1 A;int eldest 1 A;int idle 0 -;int needs 1 A;int strength 1 E;int weakest 1 A;"
            + "int year 3 A;int span 5 A;int image 0 -;int restore 0 -;int status 1 -;int count 1 -";

    private FaceTest() {
    }

    public static void main(String[] args) throws IOException, IllegalAccessException {
        Set<String> names = face();
        methodsAndFields(names);
        insideClasses(names);
        source();
        room();
        Checks.end("FaceTest");
    }

    private static Set<String> face() {
        Set<String> names = new TreeSet<>();
        Set<String> due = new TreeSet<>(Arrays.asList(FACE.split(";")));
        Set<String> got = new TreeSet<>();
        for (Method m : RelicHouse.class.getDeclaredMethods()) {
            if (Modifier.isPublic(m.getModifiers())) {
                names.add(m.getName());
                got.add(m.getReturnType() + " " + m.getName() + " " + m.getParameterCount() + " " + thrown(m));
                for (Class<?> p : m.getParameterTypes()) {
                    Checks.due("parameters of " + m.getName() + " are int", p == int.class, true);
                }
            }
        }
        Checks.due("the face is the document's: " + got, got.equals(due), true);
        Checks.due("final", Modifier.isFinal(RelicHouse.class.getModifiers()), true);
        return names;
    }

    private static String thrown(Method m) {
        StringBuilder b = new StringBuilder();
        for (Class<?> e : m.getExceptionTypes()) {
            b.append(e == NoSuchElementException.class ? "E" : e == IllegalArgumentException.class ? "A" : "?");
        }
        return b.length() == 0 ? "-" : b.toString();
    }

    private static boolean isHidden(int modifiers) {
        return Modifier.isPrivate(modifiers);
    }

    private static void methodsAndFields(Set<String> names) {
        for (Method m : RelicHouse.class.getDeclaredMethods()) {
            boolean isFace = Modifier.isPublic(m.getModifiers());
            Checks.due(m.getName() + " is public or private", isFace || isHidden(m.getModifiers()), true);
            Checks.due("private " + m.getName() + " has a name of its own", !isFace && names.contains(m.getName()), false);
        }
        for (Field f : RelicHouse.class.getDeclaredFields()) {
            Checks.due(f.getName() + " is hidden", isHidden(f.getModifiers()) || f.getName().equals("NONE"), true);
        }
        for (Constructor<?> c : RelicHouse.class.getDeclaredConstructors()) {
            Checks.due("the constructor", c.getParameterCount(), 0);
        }
    }

    private static void insideClasses(Set<String> names) {
        Class<?>[] inside = RelicHouse.class.getDeclaredClasses();
        Checks.due("some twelve classes at most", inside.length <= 12, true);
        for (Class<?> c : inside) {
            Checks.due(c.getSimpleName() + " is static", Modifier.isStatic(c.getModifiers()), true);
            int fields = 0;
            for (Field f : c.getDeclaredFields()) {
                fields += Modifier.isStatic(f.getModifiers()) ? 0 : 1;
                Checks.due(f.getName() + ": static is final",
                        Modifier.isStatic(f.getModifiers()) && !Modifier.isFinal(f.getModifiers()), false);
            }
            Checks.due("some twenty fields in " + c.getSimpleName(), fields <= 20, true);
            for (Method m : c.getDeclaredMethods()) {
                Checks.due(c.getSimpleName() + "." + m.getName() + " has a name of its own", names.contains(m.getName()), false);
                Checks.due(m.getName() + " has seven parameters at most", m.getParameterCount() <= 7, true);
            }
        }
    }

    /** All calls of a run share one room, so an object is small and no call makes it grow. */
    private static void room() throws IllegalAccessException {
        RelicHouse x = new RelicHouse();
        long[] first = held(x);
        Checks.due("objects and arrays: " + first[0], first[0] <= 100, true);
        Checks.due("fields and elements: " + first[1], first[1] <= 5000, true);
        Checks.house(x, "sister 4;sister 9;relic 0 1 10;relic 1 1 9;pilgrim 1 12;pilgrim 1 9;vow 0 1;vow 1 0;");
        for (int i = 0; i < 20; i++) {
            Checks.law(x, "worth+days*2");
            Checks.work(x, "give 0;give 1;again 9[day;lapse 0;];cure 0 0;");
            Checks.seen(x, "0 1;");
            x.image();
            x.match();
            x.ask(0);
            x.best(0, 6, 0);
            x.span(i, 20, 96, 0, 0);
        }
        x.restore();
        x.undo();
        long[] last = held(x);
        Checks.due("objects and arrays then", last[0], first[0]);
        Checks.due("fields and elements then", last[1], first[1]);
    }

    /** How many objects and arrays can be come to, and how many fields and elements they have. */
    private static long[] held(Object root) throws IllegalAccessException {
        Map<Object, Boolean> met = new IdentityHashMap<>();
        Deque<Object> open = new ArrayDeque<>();
        meet(root, met, open);
        long elements = 0;
        while (!open.isEmpty()) {
            Object o = open.remove();
            if (o.getClass().isArray()) {
                elements += Array.getLength(o);
                for (int i = 0; i < Array.getLength(o) && !o.getClass().getComponentType().isPrimitive(); i++) {
                    meet(Array.get(o, i), met, open);
                }
            } else {
                for (Field f : o.getClass().getDeclaredFields()) {
                    if (!Modifier.isStatic(f.getModifiers())) {
                        elements++;
                        f.setAccessible(true);
                        meet(f.getType().isPrimitive() ? null : f.get(o), met, open);
                    }
                }
            }
        }
        return new long[] {met.size(), elements};
    }

    private static void meet(Object o, Map<Object, Boolean> met, Deque<Object> open) {
        if (o != null && met.put(o, true) == null) {
            open.add(o);
        }
    }

    private static void source() throws IOException {
        String text = Files.readString(Path.of("src/main/java/RelicHouse.java"));
        String code = text.replaceAll("(?s)/\\*.*?\\*/", "").replaceAll("//[^\n]*", "");
        for (String banned : new String[] {"try", "catch", "finally", "synchronized", "assert", "package", "double",
            "float", "instanceof", "hashCode", "toString", "Random", "Thread", "File", "var", "Object"}) {
            Checks.due("no " + banned, code.matches("(?s).*\\b" + banned + "\\b.*"), false);
        }
        Checks.due("no lambda", code.contains("->"), false);
        Checks.due("no method reference", code.contains("::"), false);
        Checks.due("one import", code.split("\nimport ", -1).length + (code.startsWith("import ") ? 1 : 0), 2);
        for (int i = 0; i < text.length(); i++) {
            if (text.charAt(i) > 127) {
                Checks.due("a sign above 127 at " + i, true, false);
            }
        }
    }
}
