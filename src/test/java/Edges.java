import java.util.ArrayList;
import java.util.IdentityHashMap;
import java.util.LinkedHashMap;
import java.util.List;
import java.util.Map;
import java.util.stream.IntStream;

/**
 * What the tests of boundaries share: numbers just inside and outside, states to stand in, and a picture of all
 * that can be asked, so that a refused call is seen to change nothing.
 */
final class Edges {
    static final int LEAST = Integer.MIN_VALUE;
    static final int GREATEST = Integer.MAX_VALUE;

    // An object is used for 512 calls at most: a state takes 120 of them at most, the rest are questions.
    private static final int QUESTIONS = 380;
    private static final List<Question> ALL = new ArrayList<>();
    private static final List<Question> BRIEF = new ArrayList<>();

    interface Run {
        void on(SpanMap x);
    }

    interface Call {
        long of(SpanMap x);
    }

    private record Question(String name, Call call) {
    }

    private final Due due;
    private final Map<Run, Map<String, Long>> before = new IdentityHashMap<>();

    Edges(Due due) {
        this.due = due;
    }

    // ---- numbers

    static int[] inside(int low, int high) {
        return new int[] {low, low + 1, high - 1, high};
    }

    /** Just outside, far outside, and those that a narrower type would take for ones inside. */
    static int[] outside(int low, int high) {
        int[] all = {LEAST, LEAST + 1, low - 65536, low - 256, low - 2, low - 1, high + 1, high + 2, low + 256, low + 65536,
            GREATEST - 1, GREATEST};
        return IntStream.of(all).filter(x -> x < low || x > high).toArray();
    }

    static long n(boolean b) {
        return b ? 1 : 0;
    }

    // ---- states

    static void nothing(SpanMap x) {
    }

    /**
     * Spans 0, 100, 200, 500 (of server 1 by a move done), a move that copies, one that is broken, server 5 down, an
     * image, three acts, a tape that ends within a clause; client 0 is stale, 1 is not, the others have no cache.
     */
    static void rich(SpanMap x) {
        x.fetch(0);
        int[] keys = {0, 10, 20, 99, 100, 150, 500, 999};
        for (int key : keys) {
            x.write(0, key, key + 1);
        }
        x.split(0, 100);
        x.split(100, 200);
        x.split(200, 500);
        x.move(500, 1);
        x.step(0, 100);
        x.move(0, 2);
        x.step(1, 1);
        x.fetch(1);
        x.write(1, 5, 6);
        x.move(100, 3);
        x.fail(2, 1);
        x.step(2, 1);
        x.down(5);
        x.image(true);
        x.split(200, 300);
        x.age();
        x.join(200);
        Due.type(x, "age;split 300");
    }

    /**
     * Spans 0, 100, 200, with values at 100 .. 104 and at 0 and 200; the move 0 of the span 100 from 0 to 1 is in the
     * stage, broken by a step that failed or not.
     */
    static Run moving(int stage, boolean broken) {
        return x -> {
            x.split(0, 100);
            x.split(100, 200);
            x.fetch(0);
            x.fetch(1);
            int[] keys = {100, 101, 102, 103, 104, 0, 200};
            for (int key : keys) {
                x.write(0, key, key + 1);
            }
            x.move(100, 1);
            if (stage > 1) {
                x.step(0, stage);
            }
            if (stage == 4) {
                x.fetch(0);
            }
            if (broken) {
                x.fail(0, 1);
                x.step(0, 1);
            }
        };
    }

    /** As moving(), and then more. */
    static Run then(Run run, Run more) {
        return x -> {
            run.on(x);
            more.on(x);
        };
    }

    static SpanMap made(Run run) {
        SpanMap x = new SpanMap();
        run.on(x);
        return x;
    }

    /** What moveOf() answers for what 0, 1, .. */
    void moveIs(SpanMap x, int move, int... want) {
        for (int what = 0; what < want.length; what++) {
            due.is("moveOf(" + move + ", " + what + ")", x.moveOf(move, what), want[what]);
        }
    }

    // ---- pictures

    /** The call has this answer, and changes nothing that can be asked then or behind undo(), image(false), script(). */
    void refused(Run run, long want, String name, Call call) {
        countsOnly(run, want, name, call);
    }

    /** As refused(), but for rows (a question's name, and its answer then) that the document says are counted. */
    void countsOnly(Run run, long want, String name, Call call, Object... rows) {
        due.is(name, call.of(made(run)), want);
        Map<String, Long> wanted = new LinkedHashMap<>(before.computeIfAbsent(run, Edges::picture));
        boolean imaged = made(run).image(false);
        for (int i = 0; i + 1 < rows.length; i += 2) {
            long more = ((Number) rows[i + 1]).longValue() - wanted.get(rows[i]);
            due.is(name + ": " + rows[i] + " is another one then", more != 0, true);
            // The image has what is counted, but not fault(); a script() tells fault() anew.
            String without = rows[i].toString().startsWith("fault") ? SCRIPTED : imaged ? GONE_BACK : null;
            for (String future : FUTURES) {
                String row = future + rows[i];
                if (wanted.containsKey(row) && !future.equals(without)) {
                    wanted.put(row, wanted.get(row) + more);
                }
            }
        }
        Map<String, Long> got = picture(then(run, call::of));
        for (String row : wanted.keySet()) {
            due.is(name + ", then " + row, got.get(row), wanted.get(row));
        }
    }

    private static final String GONE_BACK = "behind image(false) ";
    private static final String SCRIPTED = "behind script() ";
    private static final String[] FUTURES = {"", GONE_BACK, SCRIPTED, "behind undo() ", "behind 2 undo() ",
        "behind 3 undo() ", "behind 4 undo() ", "behind 5 undo() ", "behind 6 undo() "};

    private static Map<String, Long> picture(Run run) {
        Map<String, Long> seen = new LinkedHashMap<>();
        ask(run, ALL, FUTURES[0], seen);
        ask(then(run, x -> x.image(false)), BRIEF, GONE_BACK, seen);
        ask(then(run, x -> x.script()), BRIEF, SCRIPTED, seen);
        int acts = made(run).look(7);
        for (int n = 1; n <= acts; n++) {
            int times = n;
            ask(then(run, x -> {
                for (int i = 0; i < times; i++) {
                    x.undo();
                }
            }), BRIEF, FUTURES[2 + n], seen);
        }
        return seen;
    }

    private static void ask(Run run, List<Question> questions, String future, Map<String, Long> seen) {
        SpanMap x = made(run);
        int asked = 0;
        for (Question question : questions) {
            if (asked == QUESTIONS) {
                x = made(run);
                asked = 0;
            }
            seen.put(future + question.name, question.call.of(x));
            asked++;
        }
    }

    private static void put(boolean brief, String name, Call call) {
        ALL.add(new Question(name, call));
        if (brief) {
            BRIEF.add(new Question(name, call));
        }
    }

    static {
        putFirst();
        putRows();
        putKeys();
        putThoughts();
    }

    private static void putFirst() {
        for (int i = 0; i < 15; i++) {
            int what = i;
            put(true, "look(" + what + ")", x -> x.look(what));
            put(true, "count(" + what + ")", x -> x.count(what));
        }
        for (int i = 0; i < 3; i++) {
            int what = i;
            put(true, "fault(" + what + ")", x -> x.fault(what));
            put(false, "next(" + what + ")", x -> x.next(what));
        }
        put(true, "sound()", x -> x.sound());
        put(true, "spare()", x -> x.spare());
        put(true, "even()", x -> x.even());
    }

    private static void putRows() {
        for (int k = 0; k < 32 * 7; k++) {
            int i = k / 7, what = k % 7;
            put(i < 8, "span(" + i + ", " + what + ")", x -> x.span(i, what));
        }
        for (int k = 0; k < 36; k++) {
            int i = k / 6, what = k % 6;
            put(true, "clientOf(" + i + ", " + what + ")", x -> x.clientOf(i, what));
            put(true, "server(" + i + ", " + what + ")", x -> x.server(i, what));
        }
        for (int k = 0; k < 12 * 12; k++) {
            int i = k / 12, what = k % 12;
            put(i < 4, "moveOf(" + i + ", " + what + ")", x -> x.moveOf(i, what));
        }
        for (int k = 0; k < 6 * 60; k++) {
            int i = k / 60, at = k % 60;
            put(i < 1 && at < 9, "trail(" + i + ", " + at + ")", x -> x.trail(i, at));
        }
        for (int k = 3; k < 40 * 3; k++) {
            int epoch = k / 3, what = k % 3;
            put(epoch < 10, "changeOf(" + epoch + ", " + what + ")", x -> x.changeOf(epoch, what));
        }
    }

    private static void putKeys() {
        int[] keys = {0, 1, 5, 99, 100, 101, 102, 103, 104, 150, 199, 200, 499, 500, 998, 999};
        for (int key : keys) {
            put(false, "lowOf(" + key + ")", x -> x.lowOf(key));
            for (int k = 0; k < 40; k++) {
                int epoch = k;
                put(epoch == 5, "owned(" + epoch + ", " + key + ")", x -> x.owned(epoch, key));
            }
            for (int k = 0; k < 3; k++) {
                int i = k;
                put(false, "passed(" + key + ", " + i + ")", x -> x.passed(key, i));
            }
            for (int k = 0; k < 6; k++) {
                int server = k;
                put(server < 3, "stored(" + server + ", " + key + ")", x -> x.stored(server, key));
            }
        }
        for (int k = 2; k < 99; k++) {
            int key = k;
            put(false, "stored(0, " + key + ")", x -> x.stored(0, key));
            put(false, "stored(1, " + key + ")", x -> x.stored(1, key));
        }
    }

    private static void putThoughts() {
        for (int k = 0; k < 70; k++) {
            int i = k;
            put(i < 10, "hot(" + i + ", 0)", x -> x.hot(i, 0));
            put(i < 10, "hot(" + i + ", 1)", x -> x.hot(i, 1));
        }
        for (int k = 0; k < 32; k++) {
            int i = k;
            put(i < 8, "weight(" + i + ")", x -> x.weight(i));
            put(false, "middleOf(" + i + ")", x -> x.middleOf(i));
        }
        for (int k = 0; k < 6; k++) {
            int i = k;
            put(true, "load(" + i + ")", x -> x.load(i));
            put(false, "emptied(" + i + ", 0)", x -> x.emptied(i, 0));
            put(false, "emptied(" + i + ", 1)", x -> x.emptied(i, 1));
            put(false, "emptied(" + i + ", 2)", x -> x.emptied(i, 2));
            put(false, "cuts(" + i + ")", x -> x.cuts(i));
            put(false, "rounds(" + i + ")", x -> x.rounds(i));
        }
        for (int k = 0; k < 12; k++) {
            int i = k;
            put(false, "lasts(" + i + ")", x -> x.lasts(i));
        }
    }
}
