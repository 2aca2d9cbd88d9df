import java.lang.reflect.Constructor;
import java.lang.reflect.Field;
import java.lang.reflect.Method;
import java.lang.reflect.Modifier;
import java.nio.file.Files;
import java.nio.file.Path;
import java.util.Set;
import java.util.TreeSet;
import java.util.regex.Matcher;
import java.util.regex.Pattern;

/** The face is the document's, and the file keeps to what LANGUAGE.md forbids by name. */
public final class FaceTest {
    private static final Due due = new Due("FaceTest");
    private static final String FACE = "int fetch int; int read int int; int write int int int; int insist int int int;"
        + "int split int int; int middle int; int join int; int move int int; int step int int; boolean fail int int;"
        + "int down int; boolean up int; int recover int; boolean give int; long age; boolean chunk int;"
        + "int feed int int int int int; boolean end int; int script; int fault int; int undo; int span int int;"
        + "long weight int; int middleOf int; int lowOf int; int server int int; long load int; int stored int int;"
        + "int clientOf int int; int moveOf int int; int trail int int; int owned int int; int passed int int;"
        + "int hot int int; int scan int int int; long emptied int int; int cuts int; int changeOf int int; int sound;"
        + "int spare; long even; int next int; int rounds int; int lasts int; int count int; boolean image boolean;"
        + "int look int";
    private static final String FORBIDDEN = "\\b(throw|throws|try|catch|synchronized|assert|import|package|protected|"
        + "HashMap|Object|System\\.(?!arraycopy)|Exception|hashCode|toString|Random|Thread|native|volatile)\\b|->|::";

    public static void main(String[] args) throws Exception {
        face();
        ownMembers();
        text();
        due.end();
    }

    private static void face() {
        Set<String> want = new TreeSet<>();
        for (String method : FACE.split(";")) {
            want.add(method.trim());
        }
        Set<String> got = new TreeSet<>();
        for (Method method : SpanMap.class.getDeclaredMethods()) {
            if (Modifier.isPrivate(method.getModifiers())) {
                due.is("private " + method.getName() + " bears a public name", isPublicName(method.getName()), false);
                continue;
            }
            StringBuilder told = new StringBuilder(method.getReturnType() + " " + method.getName());
            for (Class<?> type : method.getParameterTypes()) {
                told.append(" ").append(type);
            }
            due.is(told + " is public", Modifier.isPublic(method.getModifiers()), true);
            got.add(told.toString());
        }
        due.is("methods " + got, got.equals(want), true);
    }

    private static boolean isPublicName(String name) {
        for (String method : FACE.split(";")) {
            if (method.trim().split(" ")[1].equals(name)) {
                return true;
            }
        }
        return false;
    }

    private static void ownMembers() {
        due.is("final", Modifier.isFinal(SpanMap.class.getModifiers()), true);
        due.is("constructors", SpanMap.class.getDeclaredConstructors().length, 1);
        for (Constructor<?> made : SpanMap.class.getDeclaredConstructors()) {
            due.is("public constructor of nothing", Modifier.isPublic(made.getModifiers()) ? made.getParameterCount() : -1, 0);
        }
        for (Field field : SpanMap.class.getDeclaredFields()) {
            due.is("private " + field.getName(), Modifier.isPrivate(field.getModifiers()), !field.getName().equals("NONE"));
            due.is("static final " + field.getName(), !Modifier.isStatic(field.getModifiers()) || Modifier.isFinal(field.getModifiers()), true);
        }
        for (Class<?> inside : SpanMap.class.getDeclaredClasses()) {
            due.is("static " + inside.getName(), Modifier.isStatic(inside.getModifiers()), true);
            due.is("fields of " + inside.getName(), inside.getDeclaredFields().length <= 20, true);
            for (Method method : inside.getDeclaredMethods()) {
                due.is(inside.getName() + "." + method.getName() + " bears a public name", isPublicName(method.getName()), false);
            }
        }
        due.is("classes", SpanMap.class.getDeclaredClasses().length + 1 <= 12, true);
    }

    private static void text() throws Exception {
        String all = Files.readString(Path.of("src/main/java/SpanMap.java"));
        due.is("signs 0 to 127 alone", all.chars().allMatch(c -> c < 128), true);
        String code = all.replaceAll("(?s)/\\*.*?\\*/", "").replaceAll("//[^\n]*", "").replaceAll("\"[^\"]*\"", "\"\"");
        Matcher found = Pattern.compile(FORBIDDEN).matcher(code);
        while (found.find()) {
            due.is("forbidden: " + found.group(), true, false);
        }
    }
}
