/** Promises 1 to 21, the calls that do something: when they are refused, and the ends of what is allowed. */
public final class EdgesOfCallsTest {
    private static final Due due = new Due("EdgesOfCallsTest");
    private static final Edges edges = new Edges(due);
    private static final Edges.Run RICH = Edges::rich;

    public static void main(String[] args) {
        newObject();
        objectsApart();
        fetch();
        read();
        write();
        insist();
        insistOnce();
        split();
        middle();
        join();
        move();
        stepsOfAMove();
        stepNumbers();
        stepTillItEnds();
        failNumbers();
        failOfMoves();
        down();
        up();
        recover();
        give();
        age();
        chunk();
        feed();
        end();
        script();
        fault();
        the512thCall();
        due.end();
    }

    /** Promise 1: "One SPAN, no values." */
    private static void newObject() {
        SpanMap x = new SpanMap();
        int[] looks = {1, 1, 63, 0, 0, 0, 4, 0, 0, 0, 0, -1};
        for (int what = 0; what < looks.length; what++) {
            due.is("look(" + what + ")", x.look(what), looks[what]);
        }
        for (int what = 0; what < 15; what++) {
            due.is("count(" + what + ")", x.count(what), 0);
        }
        int[] servers = {1, 0, 0, 0, 0, -1};
        for (int server = 0; server < 6; server++) {
            for (int what = 0; what < servers.length; what++) {
                int want = server == 0 && what == 1 ? 1 : servers[what];
                due.is("server(" + server + ", " + what + ")", x.server(server, what), want);
                due.is("clientOf(" + server + ", " + what + ")", x.clientOf(server, what), 0);
            }
        }
        due.is("owned(1, 999)", x.owned(1, 999), 0);
        due.is("owned(2, 999)", x.owned(2, 999), -1);
        due.is("changeOf(1, 0)", x.changeOf(1, 0), 0);
        due.is("moveOf(0, 0)", x.moveOf(0, 0), -1);
        due.is("undo()", x.undo(), -1);
        due.is("image(false)", x.image(false), false);
        due.is("fault(0)", x.fault(0), 0);
        due.is("fault(1)", x.fault(1), -1);
        due.is("fault(2)", x.fault(2), -1);
        due.is("script()", x.script(), 0);
    }

    /** Promise 1: a new object has nothing of another. */
    private static void objectsApart() {
        SpanMap one = Edges.made(RICH);
        SpanMap other = new SpanMap();
        due.is("look(1)", other.look(1), 1);
        due.is("image(false)", other.image(false), false);
        due.is("look(8)", other.look(8), 0);
        other.fetch(1);
        other.write(1, 700, 9);
        other.chunk(9);
        due.is("look(6) of the one", one.look(6), 4);
        due.is("stored(0, 700) of the one", one.stored(0, 700), 0);
    }

    /** Promise 2: "EPOCH of THE MAP; NONE if there is none such." */
    private static void fetch() {
        for (int client = 0; client < 6; client++) {
            due.is("fetch(" + client + ")", Edges.made(RICH).fetch(client), 7);
        }
        for (int client : Edges.outside(0, 5)) {
            edges.refused(RICH, -1, "fetch(" + client + ")", x -> x.fetch(client));
        }
    }

    /** Promise 3: "the value (0: none); NONE - a, if the answer is a (1 .. 3); NONE - 9 if one can't be." */
    private static void read() {
        SpanMap x = Edges.made(RICH);
        due.is("a value", x.read(1, 99), 100);
        due.is("none", x.read(1, 98), 0);
        due.is("answered 1", x.read(2, 99), -2);
        x.down(1);
        due.is("answered 2", x.read(1, 999), -3);
        due.is("answered 3", x.read(0, 99), -4);
        SpanMap y = Edges.made(Edges.moving(3, false));
        due.is("never 4: frozen", y.read(0, 104), 105);
        y = new SpanMap();
        y.fetch(0);
        y.write(0, 0, 99999);
        due.is("the greatest value", y.read(0, 0), 99999);
        int[][] wrong = {{-1, 0}, {6, 0}, {0, -1}, {0, 1000}, {-1, -1}, {6, 1000}, {Edges.LEAST, Edges.LEAST},
            {Edges.GREATEST, Edges.GREATEST}, {0, Edges.LEAST}, {0, Edges.GREATEST}, {Edges.LEAST, 0}, {Edges.GREATEST, 0},
            {2, 1000}, {2, -1}};
        for (int[] a : wrong) {
            edges.refused(RICH, -10, "read(" + a[0] + ", " + a[1] + ")", z -> z.read(a[0], a[1]));
        }
    }

    /** Promise 4: "the answer (0 .. 4); NONE if one can't be." */
    private static void write() {
        SpanMap x = Edges.made(RICH);
        due.is("answered 0", x.write(1, 99, 1), 0);
        due.is("answered 1", x.write(2, 99, 1), 1);
        due.is("answered 3", x.write(0, 99, 1), 3);
        x.down(1);
        due.is("answered 2", x.write(1, 999, 1), 2);
        due.is("answered 4", Edges.made(Edges.moving(3, false)).write(0, 104, 1), 4);
        int[][] wrong = {{-1, 0, 1}, {6, 0, 1}, {1, -1, 1}, {1, 1000, 1}, {1, 0, 0}, {1, 0, -1}, {1, 0, 100000},
            {1, 0, Edges.LEAST}, {1, 0, Edges.GREATEST}, {Edges.LEAST, 0, 1}, {Edges.GREATEST, 0, 1}, {1, Edges.LEAST, 1},
            {1, Edges.GREATEST, 1}, {2, 0, 0}, {0, 0, 0}, {-1, -1, 0}};
        for (int[] a : wrong) {
            String call = "(" + a[0] + ", " + a[1] + ", " + a[2] + ")";
            edges.refused(RICH, -1, "write" + call, y -> y.write(a[0], a[1], a[2]));
            edges.refused(RICH, -1, "insist" + call, y -> y.insist(a[0], a[1], a[2]));
        }
    }

    /** Promise 5: "ASKED as write(); if it is STALE, the CLIENT FETCHES and ASKS once more: the answer". */
    private static void insist() {
        SpanMap x = Edges.made(RICH);
        due.is("insist(0, 99, 7), stale", x.insist(0, 99, 7), 0);
        due.is("clientOf(0, 0)", x.clientOf(0, 0), 7);
        due.is("clientOf(0, 1)", x.clientOf(0, 1), 0);
        due.is("clientOf(0, 2): two more", x.clientOf(0, 2), 10);
        due.is("clientOf(0, 3): one more", x.clientOf(0, 3), 9);
        due.is("clientOf(0, 4)", x.clientOf(0, 4), 1);
        due.is("clientOf(0, 5)", x.clientOf(0, 5), 2);
        due.is("stored(0, 99)", x.stored(0, 99), 7);
        due.is("insist(0, 99, 8), not stale", x.insist(0, 99, 8), 0);
        due.is("clientOf(0, 2): one more", x.clientOf(0, 2), 11);
        due.is("insist(1, 99, 9): its span is not stale", x.insist(1, 99, 9), 0);
        due.is("clientOf(1, 0): it does not fetch", x.clientOf(1, 0), 5);
        due.is("insist(2, 99, 9), no cache", x.insist(2, 99, 9), 1);
        due.is("clientOf(2, 0): it does not fetch", x.clientOf(2, 0), 0);
        x.down(0);
        due.is("insist(1, 250, 9), stale but down", x.insist(1, 250, 9), 2);
        due.is("clientOf(1, 0): it does not fetch", x.clientOf(1, 0), 5);
    }

    /** Promise 5: "once more": the second answer counts, be it 2 or 4. */
    private static void insistOnce() {
        SpanMap x = Edges.made(Edges.moving(4, false));
        x.down(1);
        due.is("insist(1, 150, 1): stale, then down", x.insist(1, 150, 1), 2);
        due.is("clientOf(1, 2)", x.clientOf(1, 2), 2);
        due.is("clientOf(1, 0)", x.clientOf(1, 0), 4);
        due.is("count(3)", x.count(3), 1);
        due.is("count(4)", x.count(4), 1);
        x = Edges.made(Edges.then(Edges.moving(4, false), y -> {
            y.step(0, 100);
            y.move(100, 2);
            y.step(1, 3);
        }));
        due.is("moveOf(1, 0)", x.moveOf(1, 0), 3);
        due.is("insist(1, 150, 1): stale, then frozen", x.insist(1, 150, 1), 4);
        due.is("count(5)", x.count(5), 1);
        due.is("clientOf(1, 4)", x.clientOf(1, 4), 1);
        due.is("clientOf(1, 3)", x.clientOf(1, 3), 0);
    }

    /** Promise 6: "the new EPOCH; NONE if there is no such SPAN, KEY within it, a MOVE of it goes on, or there are 32." */
    private static void split() {
        due.is("split(200, 201)", Edges.made(RICH).split(200, 201), 8);
        due.is("split(200, 499)", Edges.made(RICH).split(200, 499), 8);
        due.is("split(500, 999)", Edges.made(RICH).split(500, 999), 8);
        int[][] wrong = {{200, 200}, {200, 500}, {200, 199}, {201, 202}, {300, 301}, {500, 1000}, {500, 500}, {500, 499},
            {0, 50}, {0, 1}, {100, 101}, {100, 199}, {Edges.LEAST, 5}, {Edges.GREATEST, 5}, {200, Edges.LEAST},
            {200, Edges.GREATEST}, {-1, 0}, {1000, 1001}, {999, 1000}};
        for (int[] a : wrong) {
            edges.refused(RICH, -1, "split(" + a[0] + ", " + a[1] + ")", x -> x.split(a[0], a[1]));
        }
    }

    /** Promise 7: "the KEY; NONE if there is none, or it can't be." */
    private static void middle() {
        SpanMap x = Edges.made(RICH);
        due.is("middle(500)", x.middle(500), 501);
        due.is("look(0)", x.look(0), 8);
        due.is("count(6)", x.count(6), 5);
        due.is("changeOf(8, 1)", x.changeOf(8, 1), 500);
        int[] wrong = {0, 100, 200, 300, 499, 501, 999, 1000, -1, 1, Edges.LEAST, Edges.GREATEST};
        for (int low : wrong) {
            edges.refused(RICH, -1, "middle(" + low + ")", y -> y.middle(low));
        }
    }

    /** Promise 8: "the new EPOCH; NONE if there is no such SPAN, none next to it, they have two OWNERS, or a MOVE of one goes on." */
    private static void join() {
        Edges.Run free = Edges.then(RICH, x -> {
            x.recover(2);
            x.give(1);
        });
        due.is("join(0)", Edges.made(free).join(0), 8);
        due.is("join(100)", Edges.made(free).join(100), 8);
        int[] wrong = {200, 500, 1, 99, 101, 300, 499, 999, 1000, -1, Edges.LEAST, Edges.GREATEST};
        for (int low : wrong) {
            edges.refused(free, -1, "join(" + low + ")", x -> x.join(low));
            edges.refused(RICH, -1, "join(" + low + "), moves go on", x -> x.join(low));
        }
        edges.refused(RICH, -1, "join(0), both move", x -> x.join(0));
        edges.refused(RICH, -1, "join(100), the first moves", x -> x.join(100));
        edges.refused(Edges.then(RICH, x -> x.recover(2)), -1, "join(0), the first moves", x -> x.join(0));
        edges.refused(Edges.then(RICH, x -> x.give(1)), -1, "join(0), the next moves", x -> x.join(0));
    }

    /** Promise 9: "its number; NONE if it can't be." */
    private static void move() {
        due.is("move(200, 1)", Edges.made(RICH).move(200, 1), 3);
        due.is("move(200, 4)", Edges.made(RICH).move(200, 4), 3);
        due.is("move(500, 0)", Edges.made(RICH).move(500, 0), 3);
        int[][] wrong = {{200, 0}, {200, 5}, {200, 6}, {200, -1}, {500, 1}, {0, 1}, {0, 3}, {100, 1}, {300, 1}, {-1, 1},
            {1000, 1}, {999, 2}, {Edges.LEAST, 1}, {Edges.GREATEST, 1}, {200, Edges.LEAST}, {200, Edges.GREATEST}};
        for (int[] a : wrong) {
            edges.refused(RICH, -1, "move(" + a[0] + ", " + a[1] + ")", x -> x.move(a[0], a[1]));
        }
    }

    /** Promise 10: "NONE if .. it goes on no more, or is BROKEN, or there is none such." */
    private static void stepsOfAMove() {
        due.is("step(1, 1)", Edges.made(RICH).step(1, 1), 2);
        for (int move : Edges.outside(0, 2)) {
            edges.refused(RICH, -1, "step(" + move + ", 1)", x -> x.step(move, 1));
        }
        edges.refused(RICH, -1, "step(0, 1), it is done", x -> x.step(0, 1));
        edges.refused(RICH, -1, "step(2, 1), it is broken", x -> x.step(2, 1));
        edges.refused(Edges.then(RICH, x -> x.recover(2)), -1, "step(2, 1), it is undone", x -> x.step(2, 1));
        edges.refused(Edges.then(RICH, x -> x.down(2)), -1, "step(1, 1), TO is down", x -> x.step(1, 1));
        edges.refused(Edges.then(RICH, x -> x.down(0)), -1, "step(1, 1), FROM is down", x -> x.step(1, 1));
    }

    /** Promise 10: "n STEPS (1 .. 100)". */
    private static void stepNumbers() {
        for (int n : Edges.outside(1, 100)) {
            edges.refused(RICH, -1, "step(1, " + n + ")", x -> x.step(1, n));
        }
        int[] stages = {2, 3, 4, 4, 5};
        for (int n = 1; n <= 5; n++) {
            SpanMap x = Edges.made(RICH);
            due.is("step(1, " + n + ")", x.step(1, n), stages[n - 1]);
            due.is("moveOf(1, 9)", x.moveOf(1, 9), n + 1);
            due.is("look(7): one ACT", x.look(7), 4);
        }
        due.is("step(1, 99)", Edges.made(RICH).step(1, 99), 5);
        due.is("step(1, 100)", Edges.made(RICH).step(1, 100), 5);
    }

    /** Promise 10: "till one FAILS, or it goes on no more: STAGE then". */
    private static void stepTillItEnds() {
        SpanMap x = Edges.made(RICH);
        due.is("step(1, 100)", x.step(1, 100), 5);
        due.is("no more are taken than there are", x.moveOf(1, 9), 6);
        due.is("count(11)", x.count(11), 11);
        x = Edges.made(RICH);
        x.fail(1, 3);
        due.is("step(1, 100), the third fails", x.step(1, 100), 3);
        due.is("moveOf(1, 9)", x.moveOf(1, 9), 4);
        due.is("count(12)", x.count(12), 2);
        due.is("it is an ACT", x.undo(), 0);
        due.is("moveOf(1, 7)", x.moveOf(1, 7), 0);
        due.is("moveOf(1, 10)", x.moveOf(1, 10), 3);
    }

    /** Promise 11: "in n STEPS (1 .. 99; 0: not any more): true; false if n can't be". */
    private static void failNumbers() {
        int[] inside = {0, 1, 2, 98, 99};
        for (int n : inside) {
            SpanMap x = Edges.made(RICH);
            due.is("fail(1, " + n + ")", x.fail(1, n), true);
            due.is("moveOf(1, 10)", x.moveOf(1, 10), n);
        }
        for (int n : Edges.outside(0, 99)) {
            edges.refused(RICH, 0, "fail(1, " + n + ")", x -> Edges.n(x.fail(1, n)));
        }
        Edges.Run told = Edges.then(RICH, x -> x.fail(1, 5));
        edges.refused(told, 0, "fail(1, 100), it is told already", x -> Edges.n(x.fail(1, 100)));
    }

    /** Promise 11: "false if .. it goes on no more, or there is none such"; a BROKEN one may be told. */
    private static void failOfMoves() {
        for (int move : Edges.outside(0, 2)) {
            edges.refused(RICH, 0, "fail(" + move + ", 1)", x -> Edges.n(x.fail(move, 1)));
            edges.refused(RICH, 0, "fail(" + move + ", 0)", x -> Edges.n(x.fail(move, 0)));
        }
        edges.refused(RICH, 0, "fail(0, 1), it is done", x -> Edges.n(x.fail(0, 1)));
        edges.refused(RICH, 0, "fail(0, 0), it is done", x -> Edges.n(x.fail(0, 0)));
        edges.refused(Edges.then(RICH, x -> x.give(1)), 0, "fail(1, 1), it is undone", x -> Edges.n(x.fail(1, 1)));
        due.is("fail(2, 1), it is broken", Edges.made(RICH).fail(2, 1), true);
        for (int stage = 1; stage <= 4; stage++) {
            due.is("fail(0, 1) in " + stage, Edges.made(Edges.moving(stage, false)).fail(0, 1), true);
            due.is("fail(0, 1) in " + stage + ", broken", Edges.made(Edges.moving(stage, true)).fail(0, 1), true);
        }
    }

    /** Promise 12: "how many MOVES it breaks; NONE if it is DOWN, or there is none such." */
    private static void down() {
        int[] broken = {1, 0, 1, 0, 0};
        for (int server = 0; server < 5; server++) {
            SpanMap x = Edges.made(RICH);
            due.is("down(" + server + ")", x.down(server), broken[server]);
            due.is("look(2)", x.look(2), 31 - (1 << server));
            due.is("down(" + server + ") again", x.down(server), -1);
        }
        edges.refused(RICH, -1, "down(5), it is down", x -> x.down(5));
        for (int server : Edges.outside(0, 5)) {
            edges.refused(RICH, -1, "down(" + server + ")", x -> x.down(server));
        }
    }

    /** Promise 13: "true; false if it is already, or there is none such." */
    private static void up() {
        SpanMap x = Edges.made(RICH);
        due.is("up(5)", x.up(5), true);
        due.is("look(2)", x.look(2), 63);
        due.is("up(5) again", x.up(5), false);
        for (int server = 0; server < 5; server++) {
            int one = server;
            edges.refused(RICH, 0, "up(" + server + ")", y -> Edges.n(y.up(one)));
        }
        for (int server : Edges.outside(0, 5)) {
            edges.refused(RICH, 0, "up(" + server + ")", y -> Edges.n(y.up(server)));
        }
    }

    /** Promise 14: "STAGE then; NONE if it can't be." */
    private static void recover() {
        due.is("recover(2)", Edges.made(RICH).recover(2), 6);
        for (int move : Edges.outside(0, 2)) {
            edges.refused(RICH, -1, "recover(" + move + ")", x -> x.recover(move));
        }
        edges.refused(RICH, -1, "recover(0), it is done", x -> x.recover(0));
        edges.refused(RICH, -1, "recover(1), it is not broken", x -> x.recover(1));
        edges.refused(Edges.then(RICH, x -> x.down(3)), -1, "recover(2), TO is down", x -> x.recover(2));
        edges.refused(Edges.then(RICH, x -> x.down(0)), -1, "recover(2), FROM is down", x -> x.recover(2));
        edges.refused(Edges.then(RICH, x -> x.recover(2)), -1, "recover(2) again", x -> x.recover(2));
    }

    /** Promise 15: "true; false if it can't be." */
    private static void give() {
        due.is("give(1)", Edges.made(RICH).give(1), true);
        for (int move : Edges.outside(0, 2)) {
            edges.refused(RICH, 0, "give(" + move + ")", x -> Edges.n(x.give(move)));
        }
        edges.refused(RICH, 0, "give(0), it is done", x -> Edges.n(x.give(0)));
        edges.refused(RICH, 0, "give(2), it is broken", x -> Edges.n(x.give(2)));
        edges.refused(Edges.then(RICH, x -> x.down(2)), 0, "give(1), TO is down", x -> Edges.n(x.give(1)));
        edges.refused(Edges.then(RICH, x -> x.give(1)), 0, "give(1) again", x -> Edges.n(x.give(1)));
    }

    /** Promise 16: "WEIGHT of all KEYS then", of those of SERVERS that are DOWN, too. */
    private static void age() {
        due.is("age() of nothing", new SpanMap().age(), 0);
        SpanMap x = new SpanMap();
        x.split(0, 500);
        x.fetch(0);
        x.scan(0, 0, 60);
        x.scan(0, 0, 60);
        x.scan(0, 939, 999);
        x.move(500, 1);
        x.step(0, 100);
        x.down(0);
        x.down(1);
        due.is("age()", x.age(), 61);
        due.is("load(0)", x.load(0), 61);
        due.is("load(1)", x.load(1), 0);
        due.is("look(7)", x.look(7), 1);
        due.is("age()", x.age(), 0);
        due.is("look(7)", x.look(7), 2);
    }

    /** Promise 17: "true; false if it can't be." */
    private static void chunk() {
        for (int n : Edges.inside(1, 16)) {
            SpanMap x = Edges.made(RICH);
            due.is("chunk(" + n + ")", x.chunk(n), true);
            due.is("look(6)", x.look(6), n);
            due.is("chunk(0)", x.chunk(0), false);
            due.is("chunk(17)", x.chunk(17), false);
            due.is("look(6) stays", x.look(6), n);
        }
        for (int n : Edges.outside(1, 16)) {
            edges.refused(RICH, 0, "chunk(" + n + ")", x -> Edges.n(x.chunk(n)));
        }
        SpanMap x = Edges.made(Edges.moving(1, false));
        x.chunk(5);
        due.is("a move that goes on has the new CHUNK", x.step(0, 1), 1);
        due.is("moveOf(0, 5)", x.moveOf(0, 5), 105);
        x.chunk(16);
        due.is("step(0, 1)", x.step(0, 1), 2);
    }

    /** Promise 18: "how many it has; NONE, and none come, if it would have more than 400." */
    private static void feed() {
        SpanMap x = Edges.made(RICH);
        due.is("look(8)", x.look(8), 13);
        due.is("feed", x.feed(Edges.LEAST, -1, 0, 1, Edges.GREATEST), 33);
        Edges.Run full = y -> {
            Edges.rich(y);
            for (int i = 0; i < 19; i++) {
                y.feed(0x6167653b, 0, 0, 0, 0);
            }
        };
        due.is("look(8)", Edges.made(full).look(8), 393);
        edges.refused(full, -1, "feed, 413 it would have", y -> y.feed(0x6167653b, 1, 2, 3, 4));
        x = Edges.made(full);
        x.end(380);
        due.is("feed, 400", x.feed(0, 0, 0, 0, 0), 400);
    }

    /** Promise 19: "true; false if it has not so many, or n is below 0." */
    private static void end() {
        for (int n : Edges.outside(0, 13)) {
            edges.refused(RICH, 0, "end(" + n + ")", x -> Edges.n(x.end(n)));
        }
        for (int n : Edges.inside(0, 13)) {
            SpanMap x = Edges.made(RICH);
            due.is("end(" + n + ")", x.end(n), true);
            due.is("look(8)", x.look(8), n);
            due.is("end(" + (n + 1) + ")", x.end(n + 1), false);
        }
        edges.refused(Edges::nothing, 0, "end(1) of none", x -> Edges.n(x.end(1)));
        edges.refused(Edges::nothing, 1, "end(0) of none", x -> Edges.n(x.end(0)));
        edges.refused(RICH, 1, "end(13) of 13", x -> Edges.n(x.end(13)));
        SpanMap x = Edges.made(RICH);
        x.end(4);
        due.is("script() of its first four bytes", x.script(), 1);
        Due.type(x, "chunk 9;chunk 8;");
        x.end(8);
        Due.type(x, "age;");
        due.is("script()", x.script(), 2);
        due.is("look(6)", x.look(6), 9);
    }

    /** Promise 20: "how many clauses were done; NONE, and nothing is done, if there is a FAULT"; THE TAPE is empty then. */
    private static void script() {
        SpanMap x = new SpanMap();
        String[] texts = {"", "age;", "up 0;", "age;up 0;age;", "foo;", "age;age"};
        int[] done = {0, 1, 0, 1, -1, -1};
        for (int i = 0; i < texts.length; i++) {
            due.is("script() of '" + texts[i] + "'", Due.run(x, texts[i]), done[i]);
            due.is("look(8) behind '" + texts[i] + "'", x.look(8), 0);
        }
        due.is("script() again, the tape is empty", x.script(), 0);
        due.is("look(7)", x.look(7), 2);
    }

    /** Promise 21: "what 0 FAULT (0 without), 1 its place (NONE), 2 which clause was refused (from 0; NONE). NONE for another what." */
    private static void fault() {
        String[] texts = {"", "age;", "up 0;", "age;age;up 0;age;", "foo;", " age;fetch 100000;", "age;".repeat(41)};
        int[][] want = {{0, -1, -1}, {0, -1, -1}, {0, -1, 0}, {0, -1, 2}, {1, 0, -1}, {2, 11, -1}, {3, 160, -1}};
        SpanMap x = new SpanMap();
        for (int again = 0; again < 2; again++) {
            for (int i = 0; i < texts.length; i++) {
                int at = again == 0 ? i : texts.length - 1 - i;
                Due.run(x, texts[at]);
                for (int what = 0; what < 3; what++) {
                    due.is("fault(" + what + ") of '" + texts[at] + "'", x.fault(what), want[at][what]);
                }
            }
        }
        Due.run(x, "foo;");
        for (int what : Edges.outside(0, 2)) {
            due.is("fault(" + what + ")", x.fault(what), -1);
        }
        Due.type(x, "age;");
        due.is("fault(0), of the latest script()", x.fault(0), 1);
    }

    /** What it is: "used for at most 512 calls": the last of them is answered as the first, behind as many CHANGES as can be. */
    private static void the512thCall() {
        SpanMap x = new SpanMap();
        String text = "split0 1;join0;".repeat(20);
        int calls = 0;
        for (int scripts = 1; scripts <= 31; scripts++) {
            for (int at = 0; at < text.length(); at += 20) {
                x.feed(Due.four(text, at), Due.four(text, at + 4), Due.four(text, at + 8), Due.four(text, at + 12), Due.four(text, at + 16));
                calls++;
            }
            due.is("script()", x.script(), 40);
            calls++;
        }
        due.is("calls", calls, 496);
        due.is("look(0)", x.look(0), 1241);
        due.is("changeOf(1241, 0)", x.changeOf(1241, 0), 2);
        due.is("changeOf(1240, 0)", x.changeOf(1240, 0), 1);
        due.is("changeOf(1242, 0)", x.changeOf(1242, 0), -1);
        due.is("changeOf(2, 0)", x.changeOf(2, 0), 1);
        due.is("changeOf(1, 0)", x.changeOf(1, 0), 0);
        due.is("owned(1241, 999)", x.owned(1241, 999), 0);
        due.is("move(0, 5)", x.move(0, 5), 0);
        due.is("step(0, 100)", x.step(0, 100), 5);
        due.is("owned(1242, 0)", x.owned(1242, 0), 5);
        due.is("owned(1241, 0)", x.owned(1241, 0), 0);
        due.is("passed(999, 0)", x.passed(999, 0), 1242);
        due.is("span(0, 3)", x.span(0, 3), 1242);
        due.is("undo()", x.undo(), 5);
        due.is("undo()", x.undo(), 4);
        due.is("look(0), the 512th", x.look(0), 1241);
    }
}
