import java.io.IOException;
import java.lang.reflect.Constructor;
import java.lang.reflect.Field;
import java.lang.reflect.Method;
import java.lang.reflect.Modifier;
import java.nio.file.Files;
import java.nio.file.Path;
import java.util.ArrayList;
import java.util.Collections;
import java.util.List;
import java.util.NoSuchElementException;
import java.util.regex.Pattern;

/** The public face, and those rules of LANGUAGE.md that can be seen from outside. */
public final class FaceTest {
    private static final Check CHECK = new Check("FaceTest");
    private static final List<String> FACE = List.of(
        "int feed(int,int,int,int,int)", "boolean end(int)", "int tongue()", "int yard()",
        "int rhyme(int)", "int fault()", "int people()", "int answers()", "boolean forget(int)",
        "boolean born(int,int)", "int beats()", "int strong()", "int counted(int,boolean)",
        "int feet(int,int)", "int octet(int)", "int alike(int,int)", "int play()", "int hit(int)",
        "long last(long)", "int game(int)", "int says(int)", "int sure(int)",
        "int share(int,int)", "int mend()", "int changes(int,int)", "int parent(int)",
        "int mixed(int,int)", "int holds()", "int explain()", "int told(int)");

    public static void main(String[] args) throws IOException {
        face();
        inside();
        source();
        anyArguments();
        CHECK.close();
    }

    private static void face() {
        List<String> seen = new ArrayList<>();
        for (Method m : RhymeRing.class.getDeclaredMethods()) {
            if (!Modifier.isPrivate(m.getModifiers())) {
                CHECK.due(m + " is public", Modifier.isPublic(m.getModifiers()), true);
                seen.add(signature(m));
                boolean throwing = m.getName().equals("octet") || m.getName().equals("share");
                CHECK.due(m + " throws", m.getExceptionTypes().length, throwing ? 1 : 0);
                if (throwing) {
                    CHECK.due(m + " throws what the document tells",
                        m.getExceptionTypes()[0] == NoSuchElementException.class, true);
                }
            }
        }
        List<String> due = new ArrayList<>(FACE);
        Collections.sort(seen);
        Collections.sort(due);
        CHECK.due("the face " + seen, seen.equals(due), true);
        Constructor<?>[] made = RhymeRing.class.getDeclaredConstructors();
        CHECK.due("constructors", made.length, 1);
        CHECK.due("it is public", Modifier.isPublic(made[0].getModifiers()), true);
        int own = RhymeRing.class.getModifiers();
        CHECK.due("public final", Modifier.isPublic(own) && Modifier.isFinal(own), true);
        for (Field f : RhymeRing.class.getDeclaredFields()) {
            boolean isPrivate = Modifier.isPrivate(f.getModifiers());
            CHECK.due(f + " is private", isPrivate, !f.getName().equals("NONE"));
        }
    }

    private static String signature(Method m) {
        List<String> types = new ArrayList<>();
        for (Class<?> type : m.getParameterTypes()) {
            types.add(type.getName());
        }
        return m.getReturnType().getName() + " " + m.getName() + "(" + String.join(",", types) + ")";
    }

    /** Rules 1, 5 and 11: names, static fields, and how much a class and a method have. */
    private static void inside() {
        List<Class<?>> classes = new ArrayList<>(List.of(RhymeRing.class.getDeclaredClasses()));
        classes.add(RhymeRing.class);
        CHECK.due("some twelve classes: " + classes.size(), classes.size() <= 13, true);
        for (Class<?> c : classes) {
            int fields = 0;
            for (Field f : c.getDeclaredFields()) {
                boolean isStatic = Modifier.isStatic(f.getModifiers());
                fields += isStatic ? 0 : 1;
                CHECK.due(f + " is final, if static",
                    !isStatic || Modifier.isFinal(f.getModifiers()), true);
            }
            CHECK.due(c + " has some twenty fields: " + fields, fields <= 20, true);
            for (Method m : c.getDeclaredMethods()) {
                CHECK.due(m + " has seven parameters at most", m.getParameterCount() <= 7, true);
                CHECK.due(m + " has no name of the face", c != RhymeRing.class && isOfFace(m),
                    false);
            }
        }
    }

    private static boolean isOfFace(Method m) {
        for (String signature : FACE) {
            if (signature.contains(" " + m.getName() + "(")) {
                return true;
            }
        }
        return false;
    }

    private static void source() throws IOException {
        String source = Files.readString(Path.of("src/main/java/RhymeRing.java"));
        String code = source.replaceAll("(?s)/\\*.*?\\*/", "").replaceAll("//[^\n]*", "");
        CHECK.due("signs 1 to 127", source.chars().allMatch(c -> c < 128), true);
        String[] forbidden = {"\\bcatch\\b", "\\bfinally\\b", "\\bsynchronized\\b", "\\bassert\\b",
            "->", "::", "\\bnative\\b", "\\bpackage\\b", "\\bthrow new (?!NoSuchElementException\\()",
            "\\bstatic\\s*\\{", "\"\\s*\\+", "\\+\\s*\"", "\\bMAX_VALUE\\b", "\\bMIN_VALUE\\b",
            "Exact\\(", "\\bSystem\\.(?!arraycopy)", "\\b(?:Float|Double|Character|Object|Random)\\b",
            "\\bvar\\b", "\\bwhile\\s*\\(true\\)", "for\\s*\\(;;"};
        for (String pattern : forbidden) {
            CHECK.due("no " + pattern, Pattern.compile(pattern).matcher(code).find(), false);
        }
        for (String line : source.split("\n")) {
            if (line.startsWith("import ")) {
                CHECK.due(line, line.equals("import java.util.Arrays;")
                    || line.equals("import java.util.NoSuchElementException;"), true);
            }
            CHECK.due("a line of 100 signs at most: " + line, line.length() <= 100, true);
        }
    }

    /** No call throws of itself, whatever its arguments are. */
    private static void anyArguments() {
        int[] odd = {Integer.MIN_VALUE, -301, -2, -1, 0, 1, 2, 5, 6, 7, 8, 11, 12, 15, 16, 23, 24,
            239, 240, 259, 260, 261, 999, 1000, 65536, Integer.MAX_VALUE};
        for (int kind = 0; kind < 3; kind++) {
            for (int a : odd) {
                for (int b : odd) {
                    anyCall(made(kind), a, b);
                }
            }
        }
    }

    private static RhymeRing made(int kind) {
        RhymeRing x = new RhymeRing();
        if (kind > 0) {
            Check.rhyme(x, 0, "2x out! @/- moe ?");
            Check.rhyme(x, 5, "a");
            Check.rhyme(x, 2, "a/b");
            Check.people(x, kind == 1 ? "a b c" : "a b c d e f g h i j k l");
            Check.answers(x, "x yy");
        }
        if (kind == 2) {
            Check.yard(x, "by fists;then same;turn always;rhymes 0 5;");
            x.feet(0, 0);
            x.play();
        }
        return x;
    }

    private static void anyCall(RhymeRing x, int a, int b) {
        boolean fine = true;
        try {
            x.feed(a, b, a, b, a);
            x.counted(a, true);
            x.feet(a, b);
            x.alike(a, b);
            x.hit(a);
            x.last(a);
            x.last((long) a << 32 | b);
            x.game(a);
            x.says(a);
            x.sure(a);
            x.changes(a, b);
            x.parent(a);
            x.mixed(a, b);
            x.born(a, b);
            x.told(a);
            Check.octet(x, a);
            Check.share(x, a, b);
            x.end(a);
            x.end(b);
            x.rhyme(a);
            x.forget(a);
            x.forget(b);
            emptyTapes(x);
        } catch (RuntimeException e) {
            fine = false;
            System.out.println(e);
        }
        CHECK.due("calls with " + a + " and " + b, fine, true);
    }

    private static void emptyTapes(RhymeRing x) {
        x.tongue();
        x.yard();
        x.people();
        x.answers();
        x.beats();
        x.strong();
        x.play();
        x.holds();
        x.explain();
        x.mend();
        x.fault();
    }
}
