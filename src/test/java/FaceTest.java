import java.io.IOException;
import java.lang.reflect.Array;
import java.lang.reflect.Constructor;
import java.lang.reflect.Field;
import java.lang.reflect.Method;
import java.lang.reflect.Modifier;
import java.nio.file.Files;
import java.nio.file.Path;
import java.util.ArrayDeque;
import java.util.ArrayList;
import java.util.Arrays;
import java.util.Collections;
import java.util.Deque;
import java.util.HashSet;
import java.util.IdentityHashMap;
import java.util.List;
import java.util.Set;
import java.util.TreeSet;
import java.util.regex.Matcher;
import java.util.regex.Pattern;

/** The public face of the document, and what LANGUAGE.md rules out and can be seen from outside or in the text. */
public final class FaceTest {
    private static final Check CHECK = new Check("FaceTest");
    private static final String FACE = "int sign(int); boolean end(int); int laws(); int people(); int rule(); "
        + "int law(int, int); int bit(int, int); int one(int, int); int sheet(int, int, int, int); int carries(int); "
        + "int flings(int, int); int sweeps(int); int days(int); int walks(int, int); int gives(int, int, int); "
        + "int falls(int); int wind(int); int wedding(); int undo(); int later(int, int, int); int when(int, int); "
        + "int clean(); int drifts(int); int aims(int, int, int); int prays(int, int); int seeks(int, int); "
        + "int whole(int); int quorum(); int awards(); int needs(int, int); int line(); int power(int); int least(); "
        + "int seen(int, int, int); int forget(); int guess(); int looks(); int heard(int, int); int denies(); int fits(); "
        + "int asks(); int odds(int, int, int); int went(int, int, int); int clears(); int scatters(); int tries(); "
        + "int handfuls(int); int other(); int grasps(int); int years(int, int); boolean keep(int); boolean again(int); "
        + "int count(int); long row(int)";
    private static final String[] RULED_OUT = {"\\bcatch\\b", "\\btry\\b", "->", "::", "\\bvar\\b", "\\bassert\\b",
        "\\bsynchronized\\b", "\\bfinally\\b", "Exact\\b", "\\bdouble\\b", "\\bfloat\\b", "\"\\s*\\+", "\\+\\s*\"",
        "\\bstatic\\s*\\{", "\\bprotected\\b", "System\\.(?!arraycopy)", "\\bRandom\\b", "\\bThread\\b", "\\bpackage\\b"};

    public static void main(String[] args) throws IOException {
        methods();
        fieldsAndConstructor();
        nestedClasses();
        room();
        text(Files.readString(Path.of("src/main/java/ConfettiMinutes.java")));
        CHECK.end();
    }

    private static void methods() {
        Set<String> due = new TreeSet<>(Arrays.asList(FACE.split("; ")));
        Set<String> got = new TreeSet<>();
        Set<String> names = new HashSet<>();
        for (Method m : ConfettiMinutes.class.getDeclaredMethods()) {
            if (Modifier.isPublic(m.getModifiers())) {
                String params = String.join(", ", Arrays.stream(m.getParameterTypes()).map(Class::getName).toList());
                got.add(m.getReturnType().getName() + " " + m.getName() + "(" + params + ")");
                names.add(m.getName());
                CHECK.due(m.getName() + " is static", Modifier.isStatic(m.getModifiers()), false);
            }
        }
        CHECK.due("the methods of the face: " + got, got.equals(due), true);
        for (Class<?> c : all()) {
            for (Method m : c.getDeclaredMethods()) {
                boolean face = c == ConfettiMinutes.class && Modifier.isPublic(m.getModifiers());
                CHECK.due(c.getSimpleName() + "." + m.getName() + " bears a name of the face", !face && names.contains(
                    m.getName()), false);
                CHECK.due(m.getName() + " has too many parameters", m.getParameterCount() > 7, false);
                CHECK.due(m.getName() + " is hidden or of the face", face || c != ConfettiMinutes.class
                    || Modifier.isPrivate(m.getModifiers()), true);
            }
        }
    }

    private static Class<?>[] all() {
        Class<?>[] inside = ConfettiMinutes.class.getDeclaredClasses();
        Class<?>[] all = Arrays.copyOf(inside, inside.length + 1);
        all[inside.length] = ConfettiMinutes.class;
        return all;
    }

    private static void fieldsAndConstructor() {
        CHECK.due("final", Modifier.isFinal(ConfettiMinutes.class.getModifiers()), true);
        CHECK.due("no package", ConfettiMinutes.class.getPackageName().isEmpty(), true);
        Constructor<?>[] made = ConfettiMinutes.class.getDeclaredConstructors();
        CHECK.due("one constructor", made.length, 1);
        CHECK.due("without parameters", made[0].getParameterCount(), 0);
        CHECK.due("public", Modifier.isPublic(made[0].getModifiers()), true);
        for (Class<?> c : all()) {
            int own = 0;
            for (Field f : c.getDeclaredFields()) {
                boolean isNone = f.getName().equals("NONE");
                boolean isStatic = Modifier.isStatic(f.getModifiers());
                CHECK.due(f.getName() + " is public", Modifier.isPublic(f.getModifiers()), isNone);
                CHECK.due(f.getName() + " is private or NONE", isNone || Modifier.isPrivate(f.getModifiers()), true);
                CHECK.due(f.getName() + " may change for all", isStatic && !Modifier.isFinal(f.getModifiers()), false);
                own += isStatic ? 0 : 1;
            }
            CHECK.due(c.getSimpleName() + " has too many fields", own > 20, false);
        }
    }

    private static void nestedClasses() {
        CHECK.due("too many classes", all().length > 12, false);
        for (Class<?> c : ConfettiMinutes.class.getDeclaredClasses()) {
            CHECK.due(c.getSimpleName() + " is static", Modifier.isStatic(c.getModifiers()), true);
            CHECK.due(c.getSimpleName() + " is private", Modifier.isPrivate(c.getModifiers()), true);
        }
    }

    /** All calls of one run live in one room, so that an object is to be small, however much has been done with it. */
    private static void room() {
        long[] fresh = roomOf(new ConfettiMinutes());
        long[] lived = roomOf(Twins.lived());
        CHECK.due("objects and arrays of a new object", fresh[0] <= 200, true);
        CHECK.due("fields and elements of a new object", fresh[1] <= 2000, true);
        CHECK.due("objects and arrays behind many calls", lived[0], fresh[0]);
        CHECK.due("fields and elements behind many calls", lived[1], fresh[1]);
    }

    /** How many objects and arrays can be reached, and how many fields and elements these have. */
    private static long[] roomOf(Object root) {
        Set<Object> met = Collections.newSetFromMap(new IdentityHashMap<>());
        Deque<Object> waiting = new ArrayDeque<>();
        waiting.add(root);
        long parts = 0;
        while (!waiting.isEmpty()) {
            Object next = waiting.pop();
            if (met.add(next)) {
                List<Object> inside = partsOf(next);
                parts += inside.size();
                inside.stream().filter(FaceTest::isOwn).forEach(waiting::add);
            }
        }
        return new long[] {met.size(), parts};
    }

    private static boolean isOwn(Object part) {
        return part != null && (part.getClass().isArray() || part.getClass().getName().startsWith("ConfettiMinutes"));
    }

    private static List<Object> partsOf(Object whole) {
        List<Object> parts = new ArrayList<>();
        if (whole.getClass().isArray()) {
            for (int i = 0; i < Array.getLength(whole); i++) {
                parts.add(Array.get(whole, i));
            }
            return parts;
        }
        try {
            for (Field f : whole.getClass().getDeclaredFields()) {
                if (!Modifier.isStatic(f.getModifiers())) {
                    f.setAccessible(true);
                    parts.add(f.get(whole));
                }
            }
        } catch (IllegalAccessException e) {
            throw new IllegalStateException(e);
        }
        return parts;
    }

    private static void text(String source) {
        String code = source.replaceAll("(?s)/\\*.*?\\*/", "").replaceAll("//[^\n]*", "").replaceAll("\"[^\"\n]*\"", "\"\"");
        for (String pattern : RULED_OUT) {
            Matcher m = Pattern.compile(pattern).matcher(code);
            CHECK.due("the text has " + pattern, m.find(), false);
        }
        Matcher imports = Pattern.compile("(?m)^import (.*);$").matcher(code);
        while (imports.find()) {
            CHECK.due("imports " + imports.group(1), imports.group(1).equals("java.util.NoSuchElementException"), true);
        }
        Matcher thrown = Pattern.compile("throw [^;]*;").matcher(code);
        while (thrown.find()) {
            CHECK.due(thrown.group(), thrown.group().equals("throw new NoSuchElementException();"), true);
        }
        // All is made with the object itself, so no call can fill the room.
        Matcher made = Pattern.compile("(?m)^.*\\bnew \\w+(\\(|\\[).*$").matcher(code);
        while (made.find()) {
            String where = made.group().trim();
            boolean fine = where.startsWith("private ") || where.startsWith("throw ") || where.startsWith("deeds[i]")
                || where.startsWith("stores[i]");
            CHECK.due("made in a call: " + where, fine, true);
        }
    }
}
