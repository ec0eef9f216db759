import java.lang.reflect.Method;
import java.lang.reflect.Modifier;
import java.nio.file.Files;
import java.nio.file.Path;
import java.util.Set;
import java.util.TreeSet;
import java.util.regex.Matcher;
import java.util.regex.Pattern;

/** The examples of README.md: each call answers the number behind it, and no call is left out. Runs in the project's root. */
public final class ReadmeTest {
    private static final Due due = new Due();
    private static final String MADE = "FooledNeedle needle = new FooledNeedle();";
    private static final Pattern CALL = Pattern.compile("needle\\.(\\w+)\\((.*?)\\);\\s*// (-?\\d+)(:.*)?");

    public static void main(String[] args) throws Exception {
        Set<String> shown = new TreeSet<>();
        FooledNeedle needle = null;
        boolean inside = false;
        for (String line : Files.readAllLines(Path.of("README.md"))) {
            if (line.startsWith("```")) {
                inside = line.equals("```java");
            } else if (inside && line.equals(MADE)) {
                needle = new FooledNeedle();
            } else if (inside) {
                Matcher call = CALL.matcher(line);
                boolean told = call.matches();
                due.holds(line + " is a call with its answer", told);
                if (told) {
                    shown.add(call.group(1));
                    due.is(line, answer(needle, call.group(1), call.group(2)), Long.parseLong(call.group(3)));
                }
            }
        }
        due.holds("all calls are shown: " + shown, shown.equals(face()));
        due.end();
    }

    private static Set<String> face() {
        Set<String> names = new TreeSet<>();
        for (Method method : FooledNeedle.class.getDeclaredMethods()) {
            if (Modifier.isPublic(method.getModifiers())) {
                names.add(method.getName());
            }
        }
        return names;
    }

    private static int answer(FooledNeedle needle, String name, String list) throws Exception {
        String[] told = list.isEmpty() ? new String[0] : list.split(", ");
        Object[] values = new Object[told.length];
        Class<?>[] kinds = new Class<?>[told.length];
        for (int i = 0; i < told.length; i++) {
            boolean yesOrNo = told[i].equals("true") || told[i].equals("false");
            kinds[i] = yesOrNo ? boolean.class : int.class;
            values[i] = yesOrNo ? (Object) Boolean.valueOf(told[i]) : (Object) number(told[i]);
        }
        return (Integer) FooledNeedle.class.getMethod(name, kinds).invoke(needle, values);
    }

    private static Integer number(String text) {
        return text.equals("FooledNeedle.NONE") ? FooledNeedle.NONE : Integer.parseInt(text);
    }
}
