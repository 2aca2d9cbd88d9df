import java.util.Random;

/** Random runs of 512 calls, the same on SpanMap and on Plain: every answer must be the same. All promises. */
public final class RandomRunsTest {
    private static final int RUNS = 1000;
    private static final int CALLS = 512;
    private static final int QUESTIONS_AT_LAST = 120;
    private static int wrong = 0;

    private final Random random;
    private final SpanMap x = new SpanMap();
    private final Plain y = new Plain();
    private final StringBuilder told = new StringBuilder();
    private final int flavour;
    private int calls = 0;

    private RandomRunsTest(long seed) {
        random = new Random(seed);
        flavour = random.nextInt(4);
    }

    public static void main(String[] args) {
        int runs = args.length > 0 ? Integer.parseInt(args[0]) : RUNS;
        for (int run = 0; run < runs && wrong == 0; run++) {
            RandomRunsTest test = new RandomRunsTest(run);
            while (test.calls < CALLS - QUESTIONS_AT_LAST && wrong == 0) {
                test.call();
                test.question();
            }
            while (test.calls < CALLS && wrong == 0) {
                test.question();
            }
            if (wrong != 0) {
                System.out.println("RandomRunsTest, run " + run + ":" + test.told);
            }
        }
        if (wrong != 0) {
            System.exit(1);
        }
    }

    private void due(String call, long got, long want) {
        calls++;
        if (got != want) {
            wrong++;
            told.append("\n").append(call).append(" answered ").append(got).append(", due is ").append(want);
        }
    }

    private void did(String call, long got, long want) {
        told.append("\n").append(call).append(" = ").append(want);
        due(call, got, want);
    }

    private static long n(boolean b) {
        return b ? 1 : 0;
    }

    private int below(int n) {
        return random.nextInt(n);
    }

    private int wild() {
        int[] wild = {-1, -2, 6, 7, 999, 1000, 1001, Integer.MAX_VALUE, Integer.MIN_VALUE, 32, 12, 400};
        return wild[below(wild.length)];
    }

    private int or(int tame) {
        return below(60) == 0 ? wild() : tame;
    }

    private int key() {
        return or(below(3) == 0 ? below(1000) : below(flavour == 0 ? 1000 : 90));
    }

    private int low() {
        return or(below(12) == 0 ? below(1000) : y.span(below(y.span(-1, 0)), 0));
    }

    private int server() {
        return or(below(6));
    }

    private int client() {
        return or(below(flavour == 1 ? 2 : 6));
    }

    private int move() {
        return or(below(3) == 0 ? below(12) : Math.max(0, y.look(3) - 1 - below(4)));
    }

    private void call() {
        int pick = below(100);
        if (pick < 8) {
            int c = client();
            did("fetch(" + c + ")", x.fetch(c), y.fetch(c));
        } else if (pick < 14) {
            int c = client(), k = key();
            did("read(" + c + ", " + k + ")", x.read(c, k), y.read(c, k));
        } else if (pick < 30) {
            int c = client(), k = key(), v = or(1 + below(9));
            did("write(" + c + ", " + k + ", " + v + ")", x.write(c, k, v), y.write(c, k, v));
        } else if (pick < 36) {
            int c = client(), k = key(), v = or(1 + below(9));
            did("insist(" + c + ", " + k + ", " + v + ")", x.insist(c, k, v), y.insist(c, k, v));
        } else if (pick < 40) {
            int c = client(), k = key(), h = or(k + below(63));
            did("scan(" + c + ", " + k + ", " + h + ")", x.scan(c, k, h), y.scan(c, k, h));
        } else if (pick < 46) {
            int l = low(), k = below(2) == 0 ? key() : l + below(50);
            did("split(" + l + ", " + k + ")", x.split(l, k), y.split(l, k));
        } else if (pick < 50) {
            int l = low();
            did("middle(" + l + ")", x.middle(l), y.middle(l));
        } else if (pick < 54) {
            int l = low();
            did("join(" + l + ")", x.join(l), y.join(l));
        } else {
            callOfMoves(pick);
        }
    }

    private void callOfMoves(int pick) {
        if (pick < 59) {
            int l = low(), v = server();
            did("move(" + l + ", " + v + ")", x.move(l, v), y.move(l, v));
        } else if (pick < 70) {
            int m = move(), n = or(below(flavour == 2 ? 40 : 4));
            did("step(" + m + ", " + n + ")", x.step(m, n), y.step(m, n));
        } else if (pick < 73) {
            int m = move(), n = or(below(6));
            did("fail(" + m + ", " + n + ")", n(x.fail(m, n)), n(y.fail(m, n)));
        } else if (pick < 75) {
            int v = server();
            did("down(" + v + ")", x.down(v), y.down(v));
        } else if (pick < 79) {
            int v = server();
            did("up(" + v + ")", n(x.up(v)), n(y.up(v)));
        } else if (pick < 83) {
            int m = move();
            did("recover(" + m + ")", x.recover(m), y.recover(m));
        } else if (pick < 85) {
            int m = move();
            did("give(" + m + ")", n(x.give(m)), n(y.give(m)));
        } else {
            callOfActs(pick);
        }
    }

    private void callOfActs(int pick) {
        if (pick < 86) {
            did("age()", x.age(), y.age());
        } else if (pick < 87) {
            int n = or(1 + below(16));
            did("chunk(" + n + ")", n(x.chunk(n)), n(y.chunk(n)));
        } else if (pick < 92) {
            did("undo()", x.undo(), y.undo());
        } else if (pick < 94) {
            boolean taken = below(2) == 0;
            did("image(" + taken + ")", n(x.image(taken)), n(y.image(taken)));
        } else {
            script();
        }
    }

    private void script() {
        StringBuilder text = new StringBuilder();
        int clauses = below(12) == 0 ? 41 : below(8);
        for (int i = 0; i < clauses; i++) {
            clause(text, clauses > 10);
        }
        if (below(4) == 0 && text.length() > 0) {
            spoil(text);
        }
        String all = text.length() > 400 ? text.substring(0, 400) : text.toString();
        told.append("\ntape ").append(all);
        for (int i = 0; i < all.length(); i += 20) {
            int a = Due.four(all, i), b = Due.four(all, i + 4), c = Due.four(all, i + 8);
            int d = Due.four(all, i + 12), e = Due.four(all, i + 16);
            due("feed", x.feed(a, b, c, d, e), y.feed(a, b, c, d, e));
        }
        int n = below(8) == 0 ? below(401) : all.length();
        due("end", n(x.end(n)), n(y.end(n)));
        did("script()", x.script(), y.script());
        for (int what = -1; what < 4; what++) {
            due("fault(" + what + ")", x.fault(what), y.fault(what));
        }
    }

    private void clause(StringBuilder text, boolean brief) {
        int verb = brief ? 13 : below(15);
        text.append(Plain.WORDS.get(verb));
        int[] fits = {0, 0, 0};
        switch (verb) {
            case 0: fits[0] = below(6); break;
            case 1: case 2: fits[0] = below(6); fits[1] = key(); fits[2] = 1 + below(9); break;
            case 3: fits[0] = low(); fits[1] = fits[0] + below(50); break;
            case 4: case 5: fits[0] = low(); break;
            case 6: fits[0] = low(); fits[1] = server(); break;
            case 7: case 8: fits[0] = move(); fits[1] = below(6); break;
            case 9: case 10: fits[0] = server(); break;
            case 14: fits[0] = below(18); break;
            default: fits[0] = move(); break;
        }
        for (int i = 0; i < Plain.ARGS[verb]; i++) {
            text.append(below(8) == 0 && i == 0 ? "" : below(8) == 0 ? "  " : " ").append(Math.max(0, fits[i]));
        }
        text.append(below(9) == 0 ? " ;" : ";").append(below(9) == 0 ? "  " : "");
    }

    private void spoil(StringBuilder text) {
        String signs = " ;azb059\tZ" + (char) 200 + (char) 0;
        int at = below(text.length());
        char sign = signs.charAt(below(signs.length()));
        switch (below(3)) {
            case 0: text.setCharAt(at, sign); break;
            case 1: text.insert(at, sign); break;
            default: text.deleteCharAt(at); break;
        }
    }

    private void question() {
        int pick = below(3);
        if (pick == 0) {
            questionOfThought();
        } else if (pick == 1) {
            questionOfRows();
        } else {
            questionOfKeys();
        }
    }

    private void questionOfThought() {
        int what = or(below(4)), v = server(), m = move(), e = or(below(40));
        switch (below(9)) {
            case 0: due("cuts(" + e + ")", x.cuts(e), y.cuts(e)); break;
            case 1: due("rounds(" + e + ")", x.rounds(e), y.rounds(e)); break;
            case 2: due("even()", x.even(), y.even()); break;
            case 3: due("next(" + what + ")", x.next(what), y.next(what)); break;
            case 4: due("emptied(" + v + ", " + what + ")", x.emptied(v, what), y.emptied(v, what)); break;
            case 5: due("lasts(" + m + ")", x.lasts(m), y.lasts(m)); break;
            case 6: due("sound()", x.sound(), y.sound()); break;
            case 7: due("spare()", x.spare(), y.spare()); break;
            default: due("load(" + v + ")", x.load(v), y.load(v)); break;
        }
    }

    private void questionOfRows() {
        int i = or(below(below(3) == 0 ? 33 : 6)), what = or(below(13)), v = server(), c = client(), m = move();
        switch (below(8)) {
            case 0: due("look(" + what + ")", x.look(what), y.look(what)); break;
            case 1: what = or(below(16)); due("count(" + what + ")", x.count(what), y.count(what)); break;
            case 2: what = or(below(6)); due("server(" + v + ", " + what + ")", x.server(v, what), y.server(v, what)); break;
            case 3: what = or(below(7)); due("clientOf(" + c + ", " + what + ")", x.clientOf(c, what), y.clientOf(c, what)); break;
            case 4: due("moveOf(" + m + ", " + what + ")", x.moveOf(m, what), y.moveOf(m, what)); break;
            case 5: what = or(below(8)); due("span(" + i + ", " + what + ")", x.span(i, what), y.span(i, what)); break;
            case 6: due("weight(" + i + ")", x.weight(i), y.weight(i)); break;
            default: due("middleOf(" + i + ")", x.middleOf(i), y.middleOf(i)); break;
        }
    }

    private void questionOfKeys() {
        int k = key(), i = or(below(33)), what = or(below(4)), v = server(), m = move(), e = or(below(40));
        switch (below(8)) {
            case 0: due("hot(" + i + ", " + what + ")", x.hot(i, what), y.hot(i, what)); break;
            case 1: due("owned(" + e + ", " + k + ")", x.owned(e, k), y.owned(e, k)); break;
            case 2: due("passed(" + k + ", " + what + ")", x.passed(k, what), y.passed(k, what)); break;
            case 3: due("changeOf(" + e + ", " + what + ")", x.changeOf(e, what), y.changeOf(e, what)); break;
            case 4: due("trail(" + m + ", " + i + ")", x.trail(m, i), y.trail(m, i)); break;
            case 5: due("lowOf(" + k + ")", x.lowOf(k), y.lowOf(k)); break;
            default: due("stored(" + v + ", " + k + ")", x.stored(v, k), y.stored(v, k)); break;
        }
    }
}
