/** Promises 23 to 48, the questions (22, 36 and 47: see EdgesOfActsTest, EdgesOfTerms3Test): each NONE, and the ends of what is allowed. */
public final class EdgesOfQuestionsTest {
    private static final Due due = new Due("EdgesOfQuestionsTest");
    private static final Edges edges = new Edges(due);
    private static final Edges.Run RICH = Edges::rich;

    public static void main(String[] args) {
        span();
        spanFrozenAndMoving();
        weight();
        middleOf();
        lowOf();
        server();
        serverMoves();
        load();
        stored();
        clientOf();
        clientsStaleSpans();
        moveOf();
        moveOfEnded();
        trail();
        owned();
        passed();
        hot();
        hotOfAllKeys();
        emptied();
        cuts();
        changeOf();
        changeOfEachKind();
        sound();
        spare();
        even();
        next();
        rounds();
        lasts();
        lastsInEachStage();
        count();
        image();
        look();
        lookAtMovesAndSpans();
        due.end();
    }

    /** Promise 23: "i NONE: how many SPANS. NONE if there is none such, or another what." */
    private static void span() {
        int[][] want = {{0, 100, 0, 2, 1, 0, 5}, {100, 200, 0, 3, 2, 0, 2}, {200, 500, 0, 7, -1, 0, 0}, {500, 1000, 1, 5, -1, 0, 2}};
        SpanMap x = Edges.made(RICH);
        for (int i = 0; i < 4; i++) {
            for (int what = 0; what < 7; what++) {
                due.is("span(" + i + ", " + what + ")", x.span(i, what), want[i][what]);
            }
            for (int what : Edges.outside(0, 6)) {
                int at = i;
                due.is("span(" + at + ", " + what + ")", x.span(at, what), -1);
            }
        }
        for (int what = 0; what < 7; what++) {
            due.is("span(NONE, " + what + ")", x.span(SpanMap.NONE, what), 4);
        }
        for (int i : Edges.outside(-1, 3)) {
            for (int k = 0; k < 7; k++) {
                int what = k;
                edges.refused(RICH, -1, "span(" + i + ", " + what + ")", y -> y.span(i, what));
            }
        }
    }

    /** Promise 23: "4 the MOVE that goes on (NONE), 5 whether it is FROZEN (1, 0), 6 values in its OWNER's STORE", in each STAGE. */
    private static void spanFrozenAndMoving() {
        for (int stage = 1; stage <= 4; stage++) {
            for (int broken = 0; broken < 2; broken++) {
                SpanMap x = Edges.made(Edges.moving(stage, broken == 1));
                for (int i = 0; i < 3; i++) {
                    due.is("span(" + i + ", 4) in " + stage, x.span(i, 4), i == 1 ? 0 : -1);
                    due.is("span(" + i + ", 5) in " + stage, x.span(i, 5), i == 1 && stage == 3 ? 1 : 0);
                    due.is("span(" + i + ", 2) in " + stage, x.span(i, 2), i == 1 && stage == 4 ? 1 : 0);
                }
                due.is("span(1, 6) in " + stage, x.span(1, 6), 5);
            }
        }
        SpanMap x = Edges.made(Edges.moving(3, false));
        x.give(0);
        due.is("span(1, 4), undone", x.span(1, 4), -1);
        due.is("span(1, 5), undone", x.span(1, 5), 0);
        x = Edges.made(Edges.moving(4, false));
        x.step(0, 100);
        due.is("span(1, 4), done", x.span(1, 4), -1);
        due.is("span(1, 6), done", x.span(1, 6), 5);
    }

    /** Promise 24: "NONE if there is none such." */
    private static void weight() {
        int[] want = {5, 2, 0, 2};
        for (int i = 0; i < 4; i++) {
            due.is("weight(" + i + ")", Edges.made(RICH).weight(i), want[i]);
        }
        for (int i : Edges.outside(0, 3)) {
            edges.refused(RICH, -1, "weight(" + i + ")", x -> x.weight(i));
        }
        due.is("weight(31) of a few", new SpanMap().weight(31), -1);
        due.is("weight(32) of a few", new SpanMap().weight(32), -1);
    }

    /** Promise 25: "NONE if there is none (such)." */
    private static void middleOf() {
        int[] want = {11, 101, -1, 501};
        for (int i = 0; i < 4; i++) {
            due.is("middleOf(" + i + ")", Edges.made(RICH).middleOf(i), want[i]);
        }
        for (int i : Edges.outside(0, 3)) {
            edges.refused(RICH, -1, "middleOf(" + i + ")", x -> x.middleOf(i));
        }
    }

    /** Promise 26: "NONE if there is none such." */
    private static void lowOf() {
        int[] keys = {0, 99, 100, 199, 200, 300, 499, 500, 999};
        int[] lows = {0, 0, 100, 100, 200, 200, 200, 500, 500};
        for (int i = 0; i < keys.length; i++) {
            due.is("lowOf(" + keys[i] + ")", Edges.made(RICH).lowOf(keys[i]), lows[i]);
        }
        for (int key : Edges.outside(0, 999)) {
            edges.refused(RICH, -1, "lowOf(" + key + ")", x -> x.lowOf(key));
        }
        SpanMap x = new SpanMap();
        for (int i = 1; i < 32; i++) {
            x.split(i - 1, i);
        }
        for (int key = 0; key < 40; key++) {
            due.is("lowOf(" + key + ") of 32", x.lowOf(key), Math.min(key, 31));
        }
    }

    /** Promise 27: "NONE if there is none such, or another what." */
    private static void server() {
        int[][] want = {{1, 3, 7, 2, 0}, {1, 1, 2, 0, 0}, {1, 0, 4, 0, 1}, {1, 0, 2, 0, 1}, {1, 0, 0, 0, 0}, {0, 0, 0, 0, 0}};
        SpanMap x = Edges.made(RICH);
        for (int server = 0; server < 6; server++) {
            for (int what = 0; what < 5; what++) {
                due.is("server(" + server + ", " + what + ")", x.server(server, what), want[server][what]);
            }
            for (int what : Edges.outside(0, 4)) {
                due.is("server(" + server + ", " + what + ")", x.server(server, what), -1);
            }
        }
    }

    /** Promise 27: "3 MOVES that go on from it, 4 to it": those that are BROKEN, too, those that have ended not. */
    private static void serverMoves() {
        for (int stage = 1; stage <= 4; stage++) {
            for (int broken = 0; broken < 2; broken++) {
                SpanMap x = Edges.made(Edges.moving(stage, broken == 1));
                due.is("server(0, 3) in " + stage, x.server(0, 3), 1);
                due.is("server(0, 4) in " + stage, x.server(0, 4), 0);
                due.is("server(1, 3) in " + stage, x.server(1, 3), 0);
                due.is("server(1, 4) in " + stage, x.server(1, 4), 1);
            }
        }
        SpanMap x = Edges.made(Edges.moving(4, false));
        x.step(0, 100);
        due.is("server(0, 3), done", x.server(0, 3), 0);
        due.is("server(1, 4), done", x.server(1, 4), 0);
        x = Edges.made(Edges.moving(2, true));
        x.recover(0);
        due.is("server(0, 3), undone", x.server(0, 3), 0);
        due.is("server(1, 4), undone", x.server(1, 4), 0);
    }

    /** Promise 28: "NONE if there is none such." */
    private static void load() {
        int[] want = {7, 2, 0, 0, 0, 0};
        for (int server = 0; server < 6; server++) {
            due.is("load(" + server + ")", Edges.made(RICH).load(server), want[server]);
        }
        for (int server : Edges.outside(0, 5)) {
            due.is("load(" + server + ")", Edges.made(RICH).load(server), -1);
        }
    }

    /** Promise 29: "(0: none). NONE if there are none such." */
    private static void stored() {
        SpanMap x = Edges.made(RICH);
        due.is("stored(0, 0)", x.stored(0, 0), 1);
        due.is("stored(1, 999)", x.stored(1, 999), 1000);
        due.is("stored(0, 999)", x.stored(0, 999), 0);
        due.is("stored(5, 999)", x.stored(5, 999), 0);
        due.is("stored(2, 99)", x.stored(2, 99), 100);
        for (int server : Edges.outside(0, 5)) {
            due.is("stored(" + server + ", 0)", x.stored(server, 0), -1);
            due.is("stored(" + server + ", -1)", x.stored(server, -1), -1);
        }
        for (int key : Edges.outside(0, 999)) {
            due.is("stored(0, " + key + ")", x.stored(0, key), -1);
            due.is("stored(5, " + key + ")", x.stored(5, key), -1);
        }
    }

    /** Promise 30: "0 EPOCH .. (0: no CACHE) .. 5 the EPOCH NAMED latest (0). NONE if there is none such, or another what." */
    private static void clientOf() {
        int[][] want = {{1, 1, 8, 8, 0, 0}, {5, 1, 1, 1, 0, 0}, {0, 0, 0, 0, 0, 0}};
        SpanMap x = Edges.made(RICH);
        for (int client = 0; client < 6; client++) {
            for (int what = 0; what < 6; what++) {
                due.is("clientOf(" + client + ", " + what + ")", x.clientOf(client, what), want[Math.min(client, 2)][what]);
            }
            for (int what : Edges.outside(0, 5)) {
                due.is("clientOf(" + client + ", " + what + ")", x.clientOf(client, what), -1);
            }
        }
        x.read(3, 0);
        due.is("clientOf(3, 2), an asking without a cache", x.clientOf(3, 2), 1);
        x.read(0, 0);
        x.read(3, 1000);
        due.is("clientOf(3, 2), one that can't be is none", x.clientOf(3, 2), 1);
        due.is("clientOf(0, 4)", x.clientOf(0, 4), 1);
        due.is("clientOf(0, 5)", x.clientOf(0, 5), 2);
    }

    /** Promise 30: "1 SPANS of its CACHE that are STALE (their LOW's KEY would be answered 3)": not those answered 2. */
    private static void clientsStaleSpans() {
        SpanMap x = new SpanMap();
        x.split(0, 100);
        x.split(100, 200);
        x.fetch(0);
        due.is("none is stale", x.clientOf(0, 1), 0);
        x.split(100, 150);
        due.is("one of three", x.clientOf(0, 1), 1);
        x.split(200, 201);
        due.is("two of three", x.clientOf(0, 1), 2);
        x.split(0, 1);
        due.is("three of three", x.clientOf(0, 1), 3);
        x.down(0);
        due.is("they would be answered 2", x.clientOf(0, 1), 0);
        x.up(0);
        due.is("and 3 again", x.clientOf(0, 1), 3);
        x = Edges.made(Edges.moving(4, false));
        x.down(1);
        due.is("of client 1 the new owner is down, the old one not", x.clientOf(1, 1), 1);
        due.is("clientOf(1, 2): nothing is asked by that", x.clientOf(1, 2), 0);
        due.is("count(4)", x.count(4), 0);
        x = Edges.made(Edges.moving(3, false));
        due.is("frozen is not stale", x.clientOf(0, 1), 0);
    }

    /** Promise 31: "NONE if there is none such, or another what." */
    private static void moveOf() {
        int[][] want = {{5, 500, 1000, 0, 1, 1000, 0, 0, 0, 4, 0, 5}, {1, 0, 100, 0, 2, 100, 1, 0, 0, 1, 0, 0},
            {1, 100, 200, 0, 3, 151, 0, 1, 3, 1, 0, 0}};
        SpanMap x = Edges.made(RICH);
        for (int move = 0; move < 3; move++) {
            for (int what = 0; what < 12; what++) {
                due.is("moveOf(" + move + ", " + what + ")", x.moveOf(move, what), want[move][what]);
            }
            for (int what : Edges.outside(0, 11)) {
                due.is("moveOf(" + move + ", " + what + ")", x.moveOf(move, what), -1);
            }
        }
        for (int move : Edges.outside(0, 2)) {
            for (int what = 0; what < 12; what++) {
                due.is("moveOf(" + move + ", " + what + ")", Edges.made(RICH).moveOf(move, what), -1);
            }
        }
    }

    /** Promise 31: of a MOVE that has ended it can be asked as of one that goes on. */
    private static void moveOfEnded() {
        SpanMap x = Edges.made(Edges.moving(4, false));
        x.step(0, 100);
        edges.moveIs(x, 0, 5, 100, 200, 0, 1, 200, 0, 0, 0, 6, 0, 4);
        x.split(100, 110);
        x.join(0);
        due.is("moveOf(0, 1): its span as it was", x.moveOf(0, 1), 100);
        due.is("moveOf(0, 2): its span as it was", x.moveOf(0, 2), 200);
        x = Edges.made(Edges.moving(3, true));
        x.recover(0);
        edges.moveIs(x, 0, 6, 100, 200, 0, 1, 200, 0, 0, 3, 4, 0, 0);
    }

    /** Promise 32: "NONE if there is none such." */
    private static void trail() {
        SpanMap x = Edges.made(RICH);
        due.is("trail(1, 0)", x.trail(1, 0), 5);
        for (int i : Edges.outside(0, 0)) {
            due.is("trail(1, " + i + ")", x.trail(1, i), -1);
        }
        for (int move : Edges.outside(1, 1)) {
            due.is("trail(" + move + ", 0)", x.trail(move, 0), -1);
        }
        SpanMap y = new SpanMap();
        y.fetch(0);
        y.move(0, 1);
        for (int key = 60; key > 0; key--) {
            y.write(0, key, 1);
        }
        for (int i = 0; i < 60; i++) {
            due.is("trail(0, " + i + ")", y.trail(0, i), 60 - i);
        }
        for (int i : Edges.outside(0, 59)) {
            due.is("trail(0, " + i + ")", y.trail(0, i), -1);
        }
    }

    /** Promise 33: "NONE if there is no such EPOCH, KEY." */
    private static void owned() {
        SpanMap x = Edges.made(RICH);
        int[] want = {0, 0, 0, 0, 1, 1, 1};
        for (int epoch = 1; epoch <= 7; epoch++) {
            due.is("owned(" + epoch + ", 500)", x.owned(epoch, 500), want[epoch - 1]);
            due.is("owned(" + epoch + ", 499)", x.owned(epoch, 499), 0);
            due.is("owned(" + epoch + ", 999)", x.owned(epoch, 999), want[epoch - 1]);
        }
        for (int epoch : Edges.outside(1, 7)) {
            edges.refused(RICH, -1, "owned(" + epoch + ", 0)", y -> y.owned(epoch, 0));
        }
        for (int key : Edges.outside(0, 999)) {
            edges.refused(RICH, -1, "owned(7, " + key + ")", y -> y.owned(7, key));
            edges.refused(RICH, -1, "owned(8, " + key + ")", y -> y.owned(8, key));
        }
    }

    /** Promise 34: "(0: the first such). NONE if there is none such." */
    private static void passed() {
        SpanMap x = new SpanMap();
        for (int i = 0; i < 12; i++) {
            due.is("move", x.move(0, (i + 1) % 6), i);
            due.is("step", x.step(i, 100), 5);
        }
        for (int i = 0; i < 12; i++) {
            due.is("passed(0, " + i + ")", x.passed(0, i), i + 2);
            due.is("passed(999, " + i + ")", x.passed(999, i), i + 2);
            due.is("owned(" + (i + 1) + ", 7)", x.owned(i + 1, 7), i % 6);
        }
        for (int i : Edges.outside(0, 11)) {
            due.is("passed(0, " + i + ")", x.passed(0, i), -1);
        }
        for (int key : Edges.outside(0, 999)) {
            due.is("passed(" + key + ", 0)", x.passed(key, 0), -1);
        }
        SpanMap y = Edges.made(RICH);
        due.is("passed(499, 0): splits and joins don't pass it on", y.passed(499, 0), -1);
        due.is("passed(500, 0)", y.passed(500, 0), 5);
        due.is("passed(500, 1)", y.passed(500, 1), -1);
        due.is("passed(0, 0): a move that goes on has not yet", y.passed(0, 0), -1);
    }

    /** Promise 35: "by WEIGHT (above 0; the greatest first, of several the least) .. NONE if there is none such, or another what." */
    private static void hot() {
        SpanMap x = new SpanMap();
        due.is("hot(0, 0) of none", x.hot(0, 0), -1);
        due.is("hot(0, 1) of none", x.hot(0, 1), -1);
        x.fetch(0);
        x.read(0, 999);
        x.write(0, 500, 1);
        x.write(0, 0, 1);
        x.read(0, 1);
        int[] keys = {0, 500, 1, 999, -1};
        int[] weights = {2, 2, 1, 1, -1};
        for (int i = 0; i < 5; i++) {
            due.is("hot(" + i + ", 0)", x.hot(i, 0), keys[i]);
            due.is("hot(" + i + ", 1)", x.hot(i, 1), weights[i]);
        }
        for (int i : Edges.outside(0, 3)) {
            due.is("hot(" + i + ", 0)", x.hot(i, 0), -1);
            due.is("hot(" + i + ", 1)", x.hot(i, 1), -1);
        }
        for (int what : Edges.outside(0, 1)) {
            due.is("hot(0, " + what + ")", x.hot(0, what), -1);
        }
        x.age();
        due.is("hot(1, 0), aged", x.hot(1, 0), 500);
        due.is("hot(2, 0), aged to 0", x.hot(2, 0), -1);
    }

    /** Promise 35: all 1000 KEYS may have WEIGHT. */
    private static void hotOfAllKeys() {
        SpanMap x = new SpanMap();
        x.fetch(0);
        for (int low = 0; low < 1000; low += 50) {
            x.scan(0, low, low + 49);
        }
        due.is("weight(0)", x.weight(0), 1000);
        for (int i = 0; i < 1000; i += 37) {
            due.is("hot(" + i + ", 0)", x.hot(i, 0), i);
        }
        due.is("hot(999, 0)", x.hot(999, 0), 999);
        due.is("hot(1000, 0)", x.hot(1000, 0), -1);
        x.write(0, 999, 1);
        due.is("hot(0, 0)", x.hot(0, 0), 999);
        due.is("hot(0, 1)", x.hot(0, 1), 3);
        due.is("hot(1, 0)", x.hot(1, 0), 0);
        due.is("hot(999, 0)", x.hot(999, 0), 998);
        due.is("cuts(0)", x.cuts(0), 999);
        due.is("middleOf(0)", x.middleOf(0), 501);
    }

    /** Promise 37: "2 the SERVER to which the first goes (NONE). NONE if there is no other SERVER that is UP, none such, or another what." */
    private static void emptied() {
        SpanMap x = Edges.made(RICH);
        int[][] want = {{1, 2, 2}, {1, 7, 2}, {0, 7, -1}, {0, 7, -1}, {0, 7, -1}, {0, 7, -1}};
        for (int server = 0; server < 6; server++) {
            for (int what = 0; what < 3; what++) {
                due.is("emptied(" + server + ", " + what + ")", x.emptied(server, what), want[server][what]);
            }
            for (int what : Edges.outside(0, 2)) {
                due.is("emptied(" + server + ", " + what + ")", x.emptied(server, what), -1);
            }
        }
        for (int server : Edges.outside(0, 5)) {
            for (int what = 0; what < 3; what++) {
                due.is("emptied(" + server + ", " + what + ")", x.emptied(server, what), -1);
            }
        }
    }

    /** Promise 38: "CUTS n (0 .. 1000000). NONE if it can't be." */
    private static void cuts() {
        SpanMap x = Edges.made(RICH);
        due.is("cuts(0)", x.cuts(0), 8 + 3 + 0 + 2);
        due.is("cuts(1)", x.cuts(1), 4 + 1 + 0 + 1);
        due.is("cuts(2)", x.cuts(2), 2);
        due.is("cuts(4)", x.cuts(4), 1);
        due.is("cuts(5)", x.cuts(5), 0);
        due.is("cuts(999999)", x.cuts(999999), 0);
        due.is("cuts(1000000)", x.cuts(1000000), 0);
        for (int n : Edges.outside(0, 1000000)) {
            edges.refused(RICH, -1, "cuts(" + n + ")", y -> y.cuts(n));
        }
    }

    /** Promise 39: "(0: the first EPOCH) .. (NONE) .. (NONE). NONE if there is no such EPOCH, or another what." */
    private static void changeOf() {
        SpanMap x = Edges.made(RICH);
        int[][] want = {{0, -1, -1}, {1, 0, 0}, {1, 100, 0}, {1, 200, 0}, {3, 500, 1}, {1, 200, 0}, {2, 200, 0}};
        for (int epoch = 1; epoch <= 7; epoch++) {
            for (int what = 0; what < 3; what++) {
                due.is("changeOf(" + epoch + ", " + what + ")", x.changeOf(epoch, what), want[epoch - 1][what]);
            }
            for (int what : Edges.outside(0, 2)) {
                due.is("changeOf(" + epoch + ", " + what + ")", x.changeOf(epoch, what), -1);
            }
        }
        for (int epoch : Edges.outside(1, 7)) {
            for (int what = 0; what < 3; what++) {
                due.is("changeOf(" + epoch + ", " + what + ")", Edges.made(RICH).changeOf(epoch, what), -1);
            }
        }
    }

    /** Promise 39: of each kind at the ends of the KEYS and SERVERS; "LOW of the (first) SPAN that came of it", as it was then. */
    private static void changeOfEachKind() {
        SpanMap x = new SpanMap();
        x.split(0, 999);        // 2
        x.move(999, 5);
        x.step(0, 100);         // 3
        x.move(0, 5);
        x.step(1, 100);         // 4
        x.split(0, 998);        // 5
        x.join(998);            // 6
        x.join(0);              // 7
        x.fetch(0);
        x.write(0, 0, 1);
        x.middle(0);            // 8
        int[][] want = {{1, 0, 0}, {3, 999, 5}, {3, 0, 5}, {1, 0, 5}, {2, 998, 5}, {2, 0, 5}, {1, 0, 5}};
        for (int epoch = 2; epoch <= 8; epoch++) {
            for (int what = 0; what < 3; what++) {
                due.is("changeOf(" + epoch + ", " + what + ")", x.changeOf(epoch, what), want[epoch - 2][what]);
            }
        }
    }

    /** Promise 40: "(1, 0)"; what calls can reach is SOUND. */
    private static void sound() {
        due.is("sound() of nothing", new SpanMap().sound(), 1);
        due.is("sound()", Edges.made(RICH).sound(), 1);
        SpanMap x = Edges.made(RICH);
        x.step(1, 100);
        x.recover(2);
        due.is("sound()", x.sound(), 1);
        due.is("spare()", x.spare(), 0);
    }

    /** Promise 41: values "beside those of KEYS' OWNERS". */
    private static void spare() {
        due.is("spare() of nothing", new SpanMap().spare(), 0);
        due.is("spare(): four of move 1, two of move 2", Edges.made(RICH).spare(), 4 + 2);
        SpanMap x = Edges.made(Edges.moving(4, false));
        for (int left = 5; left >= 0; left -= 4) {
            due.is("spare()", x.spare(), left);
            x.step(0, 1);
        }
        due.is("spare()", x.spare(), 0);
        due.is("look(9)", x.look(9), 7);
    }

    /** Promise 42: "NONE if none is UP." */
    private static void even() {
        SpanMap x = Edges.made(RICH);
        due.is("even()", x.even(), 7);
        for (int server = 4; server > 1; server--) {
            x.down(server);
        }
        due.is("even() of two", x.even(), 5);
        x.down(1);
        due.is("even() of one", x.even(), 0);
        x.down(0);
        due.is("even() of none", x.even(), -1);
        x.up(5);
        due.is("even() of one", x.even(), 0);
    }

    /** Promise 43: "what 0 what (0 .. 2), 1 LOW of the SPAN (NONE), 2 to which SERVER, at which KEY (NONE). NONE for another what." */
    private static void next() {
        SpanMap nothing = new SpanMap();
        due.is("next(0)", nothing.next(0), 0);
        due.is("next(1)", nothing.next(1), -1);
        due.is("next(2)", nothing.next(2), -1);
        SpanMap split = new SpanMap();
        split.fetch(0);
        split.read(0, 998);
        due.is("next(0)", split.next(0), 2);
        due.is("next(1)", split.next(1), 0);
        due.is("next(2)", split.next(2), 999);
        SpanMap move = new SpanMap();
        move.split(0, 999);
        move.fetch(0);
        move.read(0, 999);
        move.read(0, 998);
        for (int server = 1; server < 5; server++) {
            move.down(server);
        }
        due.is("next(0)", move.next(0), 1);
        due.is("next(1)", move.next(1), 0);
        due.is("next(2)", move.next(2), 5);
        for (int what : Edges.outside(0, 2)) {
            due.is("next(" + what + ")", nothing.next(what), -1);
            due.is("next(" + what + ")", split.next(what), -1);
            due.is("next(" + what + ")", move.next(what), -1);
        }
    }

    /** Promise 44: "(bound 0 .. 1000000). NONE if it can't be, or not by then." */
    private static void rounds() {
        for (int bound : Edges.outside(0, 1000000)) {
            due.is("rounds(" + bound + ") of nothing", new SpanMap().rounds(bound), -1);
            edges.refused(RICH, -1, "rounds(" + bound + ")", x -> x.rounds(bound));
        }
        for (int bound : Edges.inside(0, 1000000)) {
            due.is("rounds(" + bound + ") of nothing", new SpanMap().rounds(bound), 0);
        }
        due.is("rounds(7)", Edges.made(RICH).rounds(7), 0);
        due.is("rounds(6): no span of 0 is free but one without weight", Edges.made(RICH).rounds(6), 0);
    }

    /** Promise 45: "NONE if it goes on no more, is BROKEN, FROM or TO is DOWN, or there is none such." */
    private static void lasts() {
        due.is("lasts(1)", Edges.made(RICH).lasts(1), 1 + 1 + 1 + 2);
        for (int move : Edges.outside(1, 1)) {
            edges.refused(RICH, -1, "lasts(" + move + ")", x -> x.lasts(move));
        }
        SpanMap x = Edges.made(RICH);
        x.down(2);
        due.is("lasts(1), TO is down", x.lasts(1), -1);
        x.up(2);
        due.is("lasts(1), broken", x.lasts(1), -1);
        x.recover(1);
        due.is("lasts(1), undone", x.lasts(1), -1);
    }

    /** Promise 45: "how many STEPS it would take till it is DONE, nobody writing, none failing", in each STAGE, as it is TOLD to fail, too. */
    private static void lastsInEachStage() {
        int[] values = {0, 1, 3, 4, 5, 7, 8, 9};
        for (int n : values) {
            SpanMap x = new SpanMap();
            x.split(0, 500);
            x.fetch(0);
            for (int key = 0; key < n; key++) {
                x.write(0, key, 1);
            }
            x.move(0, 1);
            for (int key = 0; key < n; key++) {
                x.write(0, key, 2);
            }
            x.fail(0, 99);
            int steps = n / 4 + 1 + Math.max(1, (n + 3) / 4) + 1 + n / 4 + 1;
            for (int left = steps; left > 0; left--) {
                due.is("lasts(0), " + n + " values", x.lasts(0), left);
                due.is("moveOf(0, 0) < 5", x.moveOf(0, 0) < 5, true);
                x.step(0, 1);
            }
            due.is("moveOf(0, 0)", x.moveOf(0, 0), 5);
            due.is("lasts(0)", x.lasts(0), -1);
        }
    }

    /** Promise 46: "NONE for another what." */
    private static void count() {
        SpanMap x = Edges.made(RICH);
        int[] want = {0, 9, 0, 0, 0, 0, 4, 1, 3, 1, 0, 6, 1, 8, 2};
        for (int what = 0; what < 15; what++) {
            due.is("count(" + what + ")", x.count(what), want[what]);
        }
        for (int what : Edges.outside(0, 14)) {
            due.is("count(" + what + ")", x.count(what), -1);
        }
    }

    /** Promise 47: "true; false if there is none." */
    private static void image() {
        SpanMap x = new SpanMap();
        due.is("image(false)", x.image(false), false);
        due.is("image(true)", x.image(true), true);
        due.is("image(true) again", x.image(true), true);
        due.is("image(false)", x.image(false), true);
        due.is("image(false) again", x.image(false), true);
    }

    /** Promise 48: "NONE for another what." */
    private static void look() {
        SpanMap x = Edges.made(RICH);
        int[] want = {7, 4, 31, 3, 2, 1, 4, 3, 13, 9, 0};
        for (int what = 0; what < 11; what++) {
            due.is("look(" + what + ")", x.look(what), want[what]);
        }
        for (int what : Edges.outside(0, 10)) {
            due.is("look(" + what + ")", x.look(what), -1);
        }
    }

    /** Promise 48: "2 SERVERS that are UP (a set), .. 4 that go on, 5 BROKEN ones, .. 9 KEYS that have a value with their OWNER, 10 SPANS that are FROZEN". */
    private static void lookAtMovesAndSpans() {
        SpanMap x = new SpanMap();
        for (int i = 1; i < 5; i++) {
            x.split((i - 1) * 10, i * 10);
        }
        x.fetch(0);
        x.write(0, 5, 1);
        for (int i = 0; i < 4; i++) {
            x.move(i * 10, i + 1);
            x.step(i, 2);
        }
        due.is("look(4)", x.look(4), 4);
        due.is("look(10)", x.look(10), 4);
        due.is("look(9)", x.look(9), 1);
        x.step(0, 1);
        due.is("look(10), one switched", x.look(10), 3);
        due.is("look(9), the value is with the new owner", x.look(9), 1);
        due.is("look(5)", x.look(5), 0);
        x.down(4);
        due.is("look(5)", x.look(5), 1);
        due.is("look(10), a broken one is frozen", x.look(10), 3);
        x.up(4);
        x.recover(3);
        due.is("look(4)", x.look(4), 3);
        due.is("look(5)", x.look(5), 0);
        due.is("look(10)", x.look(10), 2);
        x.down(0);
        due.is("look(5)", x.look(5), 3);
        int up = 63 - 1;
        for (int server = 1; server < 6; server++) {
            due.is("look(2)", x.look(2), up);
            x.down(server);
            up -= 1 << server;
        }
        due.is("look(2)", x.look(2), 0);
    }
}
