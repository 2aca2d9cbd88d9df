/** Promises 16, 24, 25, 28, 35, 37, 38, 42 to 44: where the weight lies, and what to do next. */
public final class WeightTest {
    private static final Due due = new Due("WeightTest");

    public static void main(String[] args) {
        aging();
        hotKeys();
        cutting();
        evenAndNext();
        nextIsASplit();
        nextWithFewUp();
        nextPassesMovesBy();
        rounding();
        fortyRounds();
        emptying();
        due.end();
    }

    private static void read(SpanMap x, int key, int times) {
        for (int i = 0; i < times; i++) {
            x.insist(0, key, 1);
        }
    }

    /** The client 0 gives the keys twice these weights, by writes that find their way. */
    private static SpanMap heavy(int... keysAndTimes) {
        SpanMap x = new SpanMap();
        x.fetch(0);
        for (int i = 0; i < keysAndTimes.length; i += 2) {
            read(x, keysAndTimes[i], keysAndTimes[i + 1]);
        }
        return x;
    }

    private static void aging() {
        SpanMap x = heavy(5, 3, 6, 1);
        x.read(0, 5);
        due.is("weight", x.weight(0), 9);
        due.is("age", x.age(), 3 + 1);
        due.is("hot(0, 1)", x.hot(0, 1), 3);
        due.is("age", x.age(), 1);
        due.is("age", x.age(), 0);
        due.is("weight", x.weight(0), 0);
        due.is("weight(1)", x.weight(1), -1);
        due.is("weight(-1)", x.weight(-1), -1);
        due.is("values stay", x.stored(0, 5), 1);
    }

    private static void hotKeys() {
        SpanMap x = heavy(900, 2, 7, 2, 8, 5, 0, 1, 999, 1);
        int[] keys = {8, 7, 900, 0, 999};
        int[] weights = {10, 4, 4, 2, 2};
        for (int i = 0; i < keys.length; i++) {
            due.is("hot(" + i + ", 0)", x.hot(i, 0), keys[i]);
            due.is("hot(" + i + ", 1)", x.hot(i, 1), weights[i]);
        }
        due.is("hot(5, 0)", x.hot(5, 0), -1);
        due.is("hot(5, 1)", x.hot(5, 1), -1);
        due.is("hot(-1, 0)", x.hot(-1, 0), -1);
        due.is("hot(max, 0)", x.hot(Integer.MAX_VALUE, 0), -1);
        due.is("hot(0, 2)", x.hot(0, 2), -1);
        due.is("hot(0, -1)", x.hot(0, -1), -1);
        due.is("hot of none", new SpanMap().hot(0, 0), -1);
    }

    private static void cutting() {
        SpanMap x = heavy(10, 5, 11, 1, 500, 2, 999, 1);
        due.is("cuts(18)", x.cuts(18), 0);
        due.is("cuts(17)", x.cuts(17), 1);
        due.is("cuts(12)", x.cuts(12), 1);
        due.is("cuts(11): 10 with all ahead of it, then 11 on", x.cuts(11), 1);
        due.is("cuts(9): 0 .. 9, 10 alone, 11 on", x.cuts(9), 2);
        due.is("cuts(6)", x.cuts(6), 3);
        due.is("cuts(2)", x.cuts(2), 4);
        due.is("cuts(0)", x.cuts(0), 6);
        due.is("cuts(1000000)", x.cuts(1000000), 0);
        due.is("cuts(1000001)", x.cuts(1000001), -1);
        due.is("cuts(-1)", x.cuts(-1), -1);
        x.split(0, 11);
        due.is("cuts(10), split already", x.cuts(10), 0);
        due.is("cuts(9), split already: 10 is the last", x.cuts(9), 1);
        x.split(0, 10);
        due.is("cuts(9), 10 is a span alone", x.cuts(9), 0);
    }

    /** Four spans 0, 100, 200, 300 with 8, 6, 4, 2, all of server 0. */
    private static SpanMap stairs() {
        SpanMap x = heavy(50, 4, 150, 3, 250, 2, 350, 1);
        x.split(0, 100);
        x.split(100, 200);
        x.split(200, 300);
        return x;
    }

    private static void evenAndNext() {
        SpanMap x = stairs();
        due.is("even", x.even(), 20);
        due.is("load(0)", x.load(0), 20);
        due.is("load(1)", x.load(1), 0);
        due.is("load(6)", x.load(6), -1);
        due.is("load(-1)", x.load(-1), -1);
        due.is("weight(1)", x.weight(1), 6);
        due.is("next(0)", x.next(0), 1);
        due.is("next(1): |20 - 16| is least", x.next(1), 0);
        due.is("next(2)", x.next(2), 1);
        due.is("next(3)", x.next(3), -1);
        due.is("next(-1)", x.next(-1), -1);
        x.move(0, 1);
        x.step(0, 100);
        due.is("load(1)", x.load(1), 8);
        due.is("even: 12 and 0", x.even(), 12);
        due.is("next(1): 6 halves it", x.next(1), 100);
        due.is("next(2)", x.next(2), 2);
        x.down(2);
        due.is("even without a server that is down", x.even(), 12);
        due.is("next(2)", x.next(2), 3);
        x.down(0);
        due.is("even", x.even(), 8);
        due.is("high is 1: its one span has all, so it is split", x.next(0), 2);
        due.is("next(1)", x.next(1), 0);
        due.is("next(2)", x.next(2), 51);

        x = heavy(50, 2, 150, 2, 250, 6);
        x.split(0, 100);
        x.split(100, 200);
        due.is("|20 - 24| is less than |20 - 8|", x.next(1), 200);
        x.move(200, 5);
        x.step(0, 100);
        due.is("high is 5 with 12", x.next(0), 2);
        due.is("next(1)", x.next(1), 200);
        x.down(5);
        due.is("of two alike", x.next(1), 0);
        due.is("to the least server", x.next(2), 1);
    }

    private static void nextIsASplit() {
        SpanMap x = heavy(0, 1, 1, 1, 2, 1);
        due.is("next(0)", x.next(0), 2);
        due.is("next(1)", x.next(1), 0);
        due.is("next(2)", x.next(2), 2);
        x = heavy(999, 3);
        due.is("no middle: nothing", x.next(0), 0);
        due.is("next(1)", x.next(1), -1);
        due.is("next(2)", x.next(2), -1);
        due.is("rounds", x.rounds(0), 0);
        x = heavy(999, 3);
        for (int i = 1; i < 32; i++) {
            x.split(i - 1, i);
        }
        read(x, 500, 4);
        due.is("there is a middle", x.middleOf(31), 501);
        due.is("32 spans: none is split", x.next(0), 0);
        x.join(0);
        due.is("31 spans", x.next(0), 2);
    }

    private static void nextWithFewUp() {
        SpanMap x = stairs();
        for (int server = 1; server < 6; server++) {
            x.down(server);
        }
        due.is("even of one", x.even(), 0);
        due.is("next of one", x.next(0), 0);
        due.is("rounds of one", x.rounds(0), 0);
        x.down(0);
        due.is("even of none", x.even(), -1);
        due.is("next of none", x.next(0), 0);
        due.is("next of none", x.next(1), -1);
        due.is("look(2)", x.look(2), 0);
        x.up(0);
        x.up(3);
        due.is("next of two", x.next(2), 3);
    }

    private static void nextPassesMovesBy() {
        SpanMap x = stairs();
        x.move(0, 4);
        due.is("not the one that moves", x.next(1), 100);
        x.move(100, 4);
        x.move(200, 4);
        due.is("next(1)", x.next(1), 300);
        x.move(300, 4);
        due.is("all move", x.next(0), 0);
        due.is("emptied: none goes", x.emptied(0, 0), 0);
        due.is("emptied: none goes", x.emptied(0, 2), -1);
        due.is("emptied: the others' even", x.emptied(0, 1), 0);
    }

    private static void rounding() {
        SpanMap x = stairs();
        // 8 to 1, 6 to 2, 4 to 3 (2 stays), then 8 is split at 51: it has no middle that helps.
        due.is("rounds(20)", x.rounds(20), 0);
        due.is("rounds(19)", x.rounds(19), 1);
        due.is("rounds(12)", x.rounds(12), 1);
        due.is("rounds(11)", x.rounds(11), 2);
        due.is("rounds(8)", x.rounds(8), 2);
        due.is("rounds(1000000)", x.rounds(1000000), 0);
        due.is("rounds(1000001)", x.rounds(1000001), -1);
        due.is("rounds(-1)", x.rounds(-1), -1);
        due.is("nothing is done by that", x.look(0), 4);
        due.is("nothing is done by that", x.next(1), 0);
        SpanMap y = heavy(1, 1, 2, 1, 3, 1, 4, 1, 5, 1, 6, 1);
        due.is("six alike can be even", y.rounds(0) > 0, true);
        int rounds = y.rounds(0);
        for (int i = 0; i < rounds; i++) {
            doNext(y);
        }
        due.is("even then", y.even(), 0);
    }

    private static void fortyRounds() {
        SpanMap x = new SpanMap();
        SpanMap y = new SpanMap();
        x.fetch(0);
        y.fetch(0);
        for (int key = 0; key < 69 * 3; key += 3) {
            x.read(0, key);
            y.read(0, key);
            if (key % 2 == 1) {
                y.read(0, key);
            }
        }
        due.is("forty", x.rounds(0), 40);
        due.is("it takes one more", y.rounds(0), -1);
    }

    private static void doNext(SpanMap x) {
        if (x.next(0) == 1) {
            int move = x.move(x.next(1), x.next(2));
            x.step(move, 100);
        } else if (x.next(0) == 2) {
            x.split(x.next(1), x.next(2));
        }
    }

    private static void emptying() {
        SpanMap x = stairs();
        due.is("emptied(0, 0)", x.emptied(0, 0), 4);
        due.is("emptied(0, 1): 8, 6, 4, 2, 0", x.emptied(0, 1), 8);
        due.is("emptied(0, 2)", x.emptied(0, 2), 1);
        due.is("emptied(1, 0)", x.emptied(1, 0), 0);
        due.is("emptied(1, 1)", x.emptied(1, 1), 20);
        due.is("emptied(1, 2)", x.emptied(1, 2), -1);
        due.is("emptied(0, 3)", x.emptied(0, 3), -1);
        due.is("emptied(0, -1)", x.emptied(0, -1), -1);
        due.is("emptied(6, 0)", x.emptied(6, 0), -1);
        due.is("emptied(-1, 0)", x.emptied(-1, 0), -1);
        x.down(1);
        x.down(2);
        x.down(3);
        due.is("emptied(0, 1): 8 + 2 and 6 + 4", x.emptied(0, 1), 0);
        due.is("emptied(0, 2)", x.emptied(0, 2), 4);
        x.move(300, 4);
        due.is("one moves: 8 and 6 + 4", x.emptied(0, 1), 2);
        due.is("emptied(0, 0)", x.emptied(0, 0), 3);
        x.down(0);
        due.is("one that is down may be emptied", x.emptied(0, 0), 3);
        x.down(4);
        x.down(5);
        due.is("no other is up", x.emptied(0, 0), -1);
        x.up(0);
        due.is("no other is up", x.emptied(0, 0), -1);
        due.is("all goes to the one", x.emptied(5, 1), 0);
    }
}
