import java.lang.reflect.Constructor;
import java.lang.reflect.Field;
import java.lang.reflect.Method;
import java.lang.reflect.Modifier;
import java.nio.file.Files;
import java.nio.file.Path;
import java.util.Set;
import java.util.TreeSet;
import java.util.regex.Matcher;
import java.util.regex.Pattern;

/** The public face, and those rules of LANGUAGE.md that can be told from outside. Runs in the project's root. */
public final class FaceTest {
    private static final Due due = new Due();
    private static final String[] FACE = {
        "sine(int,boolean)", "way(int,int)", "part(int,int,int)", "told(int,int)", "error(int,int,int)",
        "errorAt(int,int,int)", "trueOf(int,int,int)", "steer(int,int,int)", "worst(int)", "worstAt(int)", "twofold(int)",
        "see(int,int,int)", "forget(int,int)", "seen(int)", "filled(int,int)", "gap(int)", "apart(int)", "residue(int,int)",
        "bar(int,int)", "ball(int,int)", "layBar(int,int,int,boolean)", "layBall(int,int)", "takeUp()", "leftOf(int)",
        "left(int)", "best()", "bestCode(int)", "layBest()", "place(int,int,int)", "note(int,int)",
        "foretold(int,int,int,int,boolean)", "foretoldError(int,int,int,int,int)", "event(int,int,int,int)",
        "asOf(int,int)", "leg(int,int,int,int,int,int)", "about(int,int)", "home()", "worked(int,int,int,boolean)",
        "split()", "splitCost()", "jump(int)", "firstApart(int)", "nearer(int)", "wreck(int,int,int)", "count(int)",
    };
    private static final String[] RULED_OUT = {
        "throw", "throws", "try", "catch", "finally", "synchronized", "assert", "native", "volatile", "package",
        "protected", "System.out", "System.err", "System.nano", "System.current", "Random", "Thread",
    };
    /** What the class takes of the library that LANGUAGE.md lists in its rule 4. */
    private static final Set<String> LIBRARY = Set.of(
        "Arrays.fill", "System.arraycopy", "Math.abs", "Math.max", "Math.min", "Math.floorDiv", "Math.floorMod");

    public static void main(String[] args) throws Exception {
        constants();
        members();
        insideClasses();
        source(Files.readString(Path.of("src/main/java/FooledNeedle.java")));
        due.end();
    }

    private static void constants() {
        due.is("UNKNOWN", FooledNeedle.UNKNOWN, -2001);
        due.is("BAD", FooledNeedle.BAD, -2002);
        due.is("STATE", FooledNeedle.STATE, -2003);
        due.is("FULL", FooledNeedle.FULL, -2004);
        due.is("NONE", FooledNeedle.NONE, -2009);
    }

    private static String told(Method method) {
        String text = method.toString();
        return text.substring(text.lastIndexOf('.', text.indexOf('(')) + 1);
    }

    private static Set<String> namesOfFace() {
        Set<String> names = new TreeSet<>();
        for (String signature : FACE) {
            names.add(signature.substring(0, signature.indexOf('(')));
        }
        return names;
    }

    private static void members() {
        Set<String> face = new TreeSet<>(Set.of(FACE));
        Set<String> names = namesOfFace();
        Set<String> found = new TreeSet<>();
        for (Method method : FooledNeedle.class.getDeclaredMethods()) {
            if (Modifier.isPrivate(method.getModifiers())) {
                due.holds(method.getName() + " is no name of the face", !names.contains(method.getName()));
            } else {
                due.holds(method + " is public and answers int",
                    Modifier.isPublic(method.getModifiers()) && method.getReturnType() == int.class);
                found.add(told(method));
            }
        }
        due.holds("the face " + face + " is " + found, face.equals(found));
        Set<String> constants = new TreeSet<>();
        int own = 0;
        for (Field field : FooledNeedle.class.getDeclaredFields()) {
            int how = field.getModifiers();
            if (Modifier.isStatic(how)) {
                due.holds(field + " is final", Modifier.isFinal(how));
            } else {
                own++;
            }
            if (!Modifier.isPrivate(how)) {
                constants.add(field.getName());
            }
        }
        due.holds("constants " + constants, constants.equals(Set.of("UNKNOWN", "BAD", "STATE", "FULL", "NONE")));
        due.holds("fields " + own, own <= 20);
        Constructor<?>[] makers = FooledNeedle.class.getDeclaredConstructors();
        due.is("constructors", makers.length, 1);
        due.holds("constructor", Modifier.isPublic(makers[0].getModifiers()) && makers[0].getParameterCount() == 0);
        int how = FooledNeedle.class.getModifiers();
        due.holds("public and final", Modifier.isPublic(how) && Modifier.isFinal(how));
    }

    private static void insideClasses() {
        Class<?>[] inside = FooledNeedle.class.getDeclaredClasses();
        due.holds("some twelve classes", inside.length <= 11);
        Set<String> names = namesOfFace();
        for (Class<?> one : inside) {
            due.holds(one + " is static", Modifier.isStatic(one.getModifiers()));
            due.holds(one + " is not public", !Modifier.isPublic(one.getModifiers()));
            due.is(one + " has none inside", one.getDeclaredClasses().length, 0);
            due.holds(one + " has some twenty fields", one.getDeclaredFields().length <= 20);
            for (Method method : one.getDeclaredMethods()) {
                due.holds(method + " takes seven at most", method.getParameterCount() <= 7);
                due.holds(method + " bears no name of the face", !names.contains(method.getName()));
            }
        }
    }

    /** Rule 4: a name behind a class's name is one of the class's own, or one that the rule lists. */
    private static void library(String code) {
        Set<String> own = new TreeSet<>();
        for (Class<?> one : FooledNeedle.class.getDeclaredClasses()) {
            own.add(one.getSimpleName());
        }
        Matcher used = Pattern.compile("\\b([A-Z]\\w*)\\.(\\w+)").matcher(code.replaceAll("(?m)^import .*$", ""));
        while (used.find()) {
            due.holds("rule 4 lists " + used.group(), own.contains(used.group(1)) || LIBRARY.contains(used.group()));
        }
    }

    private static void source(String text) {
        String code = text.replaceAll("(?s)/\\*.*?\\*/", "").replaceAll("//[^\n]*", "");
        for (String word : RULED_OUT) {
            due.holds("no " + word, !Pattern.compile("\\b" + Pattern.quote(word) + "\\b").matcher(code).find());
        }
        library(code);
        due.holds("none that ends in Exact", !Pattern.compile("Exact\\b").matcher(code).find());
        due.holds("no lambda", !code.contains("->"));
        due.holds("no method reference", !code.contains("::"));
        due.holds("one import", code.split("\\bimport\\b", -1).length == 2 && code.contains("import java.util.Arrays;"));
        due.holds("plain characters", text.chars().allMatch(c -> c < 128));
        int started = 0;
        String[] lines = text.split("\n");
        for (int i = 0; i < lines.length; i++) {
            if (lines[i].matches("    (    )?(public|private|static|int|long|void|boolean)[^=;]*\\{")) {
                started = i;
            }
            if (lines[i].matches("    (    )?\\}") && !lines[started].contains(" class ")) {
                due.holds("short: " + lines[started].trim(), i - started <= 60);
            }
        }
    }
}
