import java.io.File;
import java.lang.reflect.Method;
import java.lang.reflect.Modifier;
import java.nio.file.Files;
import java.nio.file.Path;
import java.util.Arrays;
import java.util.HashMap;
import java.util.List;
import java.util.Map;
import java.util.TreeSet;
import java.util.regex.Matcher;
import java.util.regex.Pattern;

/** README.md is as the class and .ci/run are: its examples answer what it says, its tables name all calls and tests. */
public final class ReadmeTest {
    private static final Due due = new Due("ReadmeTest");
    private static final Pattern MAKE = Pattern.compile("SpanMap x = new SpanMap\\(\\);");
    private static final Pattern CALL =
        Pattern.compile("(?:int (\\w+) = )?x\\.(\\w+)\\(([^)]*)\\);\\s*// (-?\\d+|true|false)\\b.*");
    private static final int FEWEST_CALLS = 30;

    public static void main(String[] args) throws Exception {
        List<String> lines = Files.readAllLines(Path.of("README.md"));
        examples(lines);
        callsAreNamed(lines);
        testsAreNamed(lines);
        due.end();
    }

    private static void examples(List<String> lines) throws Exception {
        Map<String, Object> names = new HashMap<>();
        SpanMap x = null;
        boolean code = false;
        int calls = 0;
        for (String line : lines) {
            if (line.startsWith("```")) {
                code = line.equals("```java");
            } else if (code && MAKE.matcher(line).matches()) {
                x = new SpanMap();
                names.clear();
            } else if (code) {
                example(x, line, names);
                calls++;
            }
        }
        due.is("examples were run", calls >= FEWEST_CALLS, true);
    }

    private static void example(SpanMap x, String line, Map<String, Object> names) throws Exception {
        Matcher call = CALL.matcher(line);
        if (x == null || !call.matches()) {
            due.is("an example: " + line, false, true);
            return;
        }
        String[] told = call.group(3).isEmpty() ? new String[0] : call.group(3).split(", ");
        Object[] with = new Object[told.length];
        Class<?>[] types = new Class<?>[told.length];
        for (int i = 0; i < told.length; i++) {
            with[i] = names.containsKey(told[i]) ? names.get(told[i]) : number(told[i]);
            types[i] = with[i] instanceof Boolean ? boolean.class : int.class;
        }
        Object got = SpanMap.class.getMethod(call.group(2), types).invoke(x, with);
        if (call.group(1) != null) {
            names.put(call.group(1), got);
        }
        due.is(line + " (got " + got + ")", got.toString().equals(call.group(4)), true);
    }

    private static Object number(String told) {
        return told.equals("true") || told.equals("false") ? (Object) told.equals("true") : (Object) Integer.decode(told);
    }

    private static void callsAreNamed(List<String> lines) {
        TreeSet<String> named = new TreeSet<>();
        for (String line : lines) {
            if (line.startsWith("| `")) {
                Matcher name = Pattern.compile("`(\\w+)`").matcher(line.split("\\|")[1]);
                while (name.find()) {
                    due.is(name.group(1) + " is named once", named.add(name.group(1)), true);
                }
            }
        }
        TreeSet<String> face = new TreeSet<>();
        for (Method method : SpanMap.class.getDeclaredMethods()) {
            if (Modifier.isPublic(method.getModifiers())) {
                face.add(method.getName());
            }
        }
        due.is("calls named " + named + ", there are " + face, named.equals(face), true);
    }

    private static void testsAreNamed(List<String> lines) {
        TreeSet<String> named = new TreeSet<>();
        for (String line : lines) {
            if (line.matches("\\| \\w+Test \\|.*")) {
                named.add(line.split("\\|")[1].trim() + ".java");
            }
        }
        String[] found = new File("src/test/java").list((directory, name) -> name.endsWith("Test.java"));
        TreeSet<String> there = new TreeSet<>(found == null ? List.of() : Arrays.asList(found));
        due.is("tests named " + named + ", there are " + there, named.equals(there), true);
    }
}
