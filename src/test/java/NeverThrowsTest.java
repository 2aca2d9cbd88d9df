import java.lang.reflect.InvocationTargetException;
import java.lang.reflect.Method;
import java.lang.reflect.Modifier;
import java.util.ArrayList;
import java.util.Arrays;
import java.util.Comparator;
import java.util.List;
import java.util.Random;

/**
 * LANGUAGE.md, rule 7: no call throws, for any arguments in any state. What is answered behind the 512th call is free,
 * so that the answers are not looked at here: only that each call comes back, also far behind it, when there are more
 * EPOCHS than the class keeps rows for.
 */
public final class NeverThrowsTest {
    private static final Due due = new Due("NeverThrowsTest");
    private static final int OBJECTS = 40;
    private static final int CALLS = 3000;
    private static final int[] WILD = {Integer.MIN_VALUE, Integer.MIN_VALUE + 1, -1000, -2, -1, 0, 1, 5, 6, 7, 11, 12, 13,
        16, 17, 31, 32, 33, 60, 61, 99, 100, 101, 399, 400, 401, 998, 999, 1000, 1001, 2047, 2048, 2049, 99999, 100000,
        1000000, 1000001, Integer.MAX_VALUE - 1, Integer.MAX_VALUE};
    private static final String[] SCRIPTS = {"fetch0;write0 7 7;age;", "split0 1;join0;split0 2;join0;split0 3;join0;",
        "move0 1;step0 9;step1 9;", "down1;up1;recover0;recover1;", "middle0;read0 7;chunk16;fail0 1;", "give0;",
        "write 0 5 99999 ; read 0", "x", ";", " ".repeat(400), "age;".repeat(100),
        "age;".repeat(39) + " ".repeat(243) + "a", "split0 900;split900 950;" + "split0 9;".repeat(9)};

    public static void main(String[] args) throws Exception {
        List<Method> face = face();
        for (int seed = 0; seed < OBJECTS; seed++) {
            run(face, new Random(seed));
        }
        moreEpochsThanRows();
        due.end();
    }

    /** In a fixed order: reflection tells none, and a run that fails must fail again. */
    private static List<Method> face() {
        List<Method> found = new ArrayList<>();
        for (Method method : SpanMap.class.getDeclaredMethods()) {
            if (Modifier.isPublic(method.getModifiers())) {
                found.add(method);
            }
        }
        found.sort(Comparator.comparing(Method::getName));
        return found;
    }

    private static void run(List<Method> face, Random random) throws IllegalAccessException {
        SpanMap x = new SpanMap();
        if (random.nextBoolean()) {
            crowd(x);
        }
        for (int i = 0; i < CALLS; i++) {
            if (random.nextInt(12) == 0) {
                due.is("a script", typed(x, SCRIPTS[random.nextInt(SCRIPTS.length)]), true);
                continue;
            }
            Method method = face.get(random.nextInt(face.size()));
            Object[] with = new Object[method.getParameterCount()];
            for (int k = 0; k < with.length; k++) {
                boolean truth = method.getParameterTypes()[k] == boolean.class;
                with[k] = truth ? (Object) (random.nextInt(8) > 0) : (Object) number(random, x);
            }
            due.is(method.getName() + Arrays.toString(with) + " came back", cameBack(x, method, with), true);
        }
    }

    /** 32 spans, 12 moves of which 4 go on, a trail of 60 keys. */
    private static void crowd(SpanMap x) {
        for (int i = 0; i < 31; i++) {
            x.split(i * 10, i == 30 ? 400 : i * 10 + 10);
        }
        for (int i = 0; i < 12; i++) {
            x.move(i < 11 ? i * 10 : 400, 1 + i % 5);
            x.step(i, i < 8 ? 100 : 1);
        }
        x.image(true);
        x.fetch(0);
        for (int key = 400; key < 460; key++) {
            x.write(0, key, 1);
        }
    }

    /** Often one that fits (a LOW, a small number), so that the run comes to all spans and moves there can be. */
    private static int number(Random random, SpanMap x) {
        switch (random.nextInt(10)) {
            case 0: return WILD[random.nextInt(WILD.length)];
            case 1: return random.nextInt();
            case 2: return random.nextInt(1000);
            case 3: case 4: case 5: return x.span(random.nextInt(32), 0);
            default: return random.nextInt(8);
        }
    }

    private static boolean cameBack(SpanMap x, Method method, Object[] with) throws IllegalAccessException {
        try {
            method.invoke(x, with);
            return true;
        } catch (InvocationTargetException thrown) {
            System.out.println(thrown.getCause());
            return false;
        }
    }

    private static boolean typed(SpanMap x, String text) {
        try {
            Due.run(x, text);
            return true;
        } catch (RuntimeException thrown) {
            System.out.println(thrown);
            return false;
        }
    }

    private static void moreEpochsThanRows() {
        boolean cameBack = true;
        SpanMap x = new SpanMap();
        try {
            for (int i = 0; i < 3000; i++) {
                x.split(0, 500);
                x.join(0);
                x.changeOf(x.look(0), i % 3);
                x.owned(x.look(0), 0);
                x.image(true);
            }
            x.image(false);
        } catch (RuntimeException thrown) {
            System.out.println(thrown);
            cameBack = false;
        }
        due.is("more EPOCHS than rows", cameBack, true);
    }
}
