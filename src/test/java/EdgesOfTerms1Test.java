/** Terms, part 1 (the map, weight, clients and their askings): each sentence that names a boundary. */
public final class EdgesOfTerms1Test {
    private static final Due due = new Due("EdgesOfTerms1Test");
    private static final Edges edges = new Edges(due);
    private static final Edges.Run RICH = Edges::rich;

    public static void main(String[] args) {
        keys();
        servers();
        serversAtFirst();
        storesAtFirst();
        values();
        atMost32Spans();
        endsOfSpans();
        theFirstSpan();
        epochOfTheMap();
        epochsOfSpans();
        weightOfKeys();
        weightOfWhatIsNotDone();
        aging();
        weightOfSpansAndServers();
        clients();
        noCacheAtFirst();
        cacheAsItWasFetched();
        noCacheIsFirst();
        downAheadOfStale();
        ownerThereIsTheCaches();
        staleByEpochAlone();
        staleByOwner();
        staleSpansAreTheKeys();
        epochNamed();
        staleAheadOfFrozen();
        frozenIsForWritesAlone();
        readOfNoValue();
        due.end();
    }

    /** Terms 1: "KEYS 0 .. 999." */
    private static void keys() {
        for (int key : Edges.inside(0, 999)) {
            SpanMap x = new SpanMap();
            x.fetch(0);
            due.is("write(0, " + key + ", 7)", x.write(0, key, 7), 0);
            due.is("read(0, " + key + ")", x.read(0, key), 7);
            due.is("insist(0, " + key + ", 8)", x.insist(0, key, 8), 0);
            due.is("scan(0, " + key + ", " + key + ")", x.scan(0, key, key), 1);
            due.is("lowOf(" + key + ")", x.lowOf(key), 0);
            due.is("stored(0, " + key + ")", x.stored(0, key), 8);
            due.is("stored(5, " + key + ")", x.stored(5, key), 0);
            due.is("owned(1, " + key + ")", x.owned(1, key), 0);
            due.is("hot(0, 0)", x.hot(0, 0), key);
        }
        for (int key : Edges.outside(0, 999)) {
            edges.refused(RICH, -10, "read(1, " + key + ")", x -> x.read(1, key));
            edges.refused(RICH, -1, "write(1, " + key + ", 7)", x -> x.write(1, key, 7));
            edges.refused(RICH, -1, "insist(1, " + key + ", 7)", x -> x.insist(1, key, 7));
            edges.refused(RICH, -10, "scan(1, " + key + ", " + key + ")", x -> x.scan(1, key, key));
            edges.refused(RICH, -1, "lowOf(" + key + ")", x -> x.lowOf(key));
            edges.refused(RICH, -1, "stored(0, " + key + ")", x -> x.stored(0, key));
            edges.refused(RICH, -1, "owned(1, " + key + ")", x -> x.owned(1, key));
            edges.refused(RICH, -1, "passed(" + key + ", 0)", x -> x.passed(key, 0));
            edges.refused(RICH, -1, "split(200, " + key + ")", x -> x.split(200, key));
            edges.refused(RICH, -1, "split(" + key + ", 250)", x -> x.split(key, 250));
            edges.refused(RICH, -1, "middle(" + key + ")", x -> x.middle(key));
            edges.refused(RICH, -1, "join(" + key + ")", x -> x.join(key));
            edges.refused(RICH, -1, "move(" + key + ", 4)", x -> x.move(key, 4));
        }
    }

    /** Terms 1: "SERVERS 0 .. 5". */
    private static void servers() {
        for (int server = 0; server < 6; server++) {
            SpanMap x = new SpanMap();
            due.is("server(" + server + ", 1)", x.server(server, 1), server == 0 ? 1 : 0);
            due.is("load(" + server + ")", x.load(server), 0);
            due.is("stored(" + server + ", 0)", x.stored(server, 0), 0);
            due.is("emptied(" + server + ", 0)", x.emptied(server, 0), server == 0 ? 1 : 0);
            due.is("move(0, " + server + ")", x.move(0, server), server == 0 ? -1 : 0);
            due.is("down(" + server + ")", x.down(server), server == 0 ? 0 : 1);
            due.is("up(" + server + ")", x.up(server), true);
        }
        for (int server : Edges.outside(0, 5)) {
            edges.refused(RICH, -1, "move(200, " + server + ")", x -> x.move(200, server));
            edges.refused(RICH, -1, "down(" + server + ")", x -> x.down(server));
            edges.refused(RICH, 0, "up(" + server + ")", x -> Edges.n(x.up(server)));
            edges.refused(RICH, -1, "load(" + server + ")", x -> x.load(server));
            for (int k = 0; k < 5; k++) {
                int what = k;
                edges.refused(RICH, -1, "server(" + server + ", " + what + ")", x -> x.server(server, what));
                edges.refused(RICH, -1, "emptied(" + server + ", " + what + ")", x -> x.emptied(server, what));
            }
            edges.refused(RICH, -1, "stored(" + server + ", 0)", x -> x.stored(server, 0));
        }
        // A server and a key that are both outside and would make up for one another in one row of values.
        SpanMap x = Edges.made(RICH);
        due.is("stored(-1, 1010)", x.stored(-1, 1010), -1);
        due.is("stored(1, -990)", x.stored(1, -990), -1);
        due.is("stored(0, 1500)", x.stored(0, 1500), -1);
        due.is("stored(6, -5001)", x.stored(6, -5001), -1);
    }

    /** Terms 1: "UP (at first) or DOWN". */
    private static void serversAtFirst() {
        SpanMap x = new SpanMap();
        for (int server = 0; server < 6; server++) {
            due.is("server(" + server + ", 0)", x.server(server, 0), 1);
            due.is("up(" + server + ")", x.up(server), false);
        }
        due.is("look(2)", x.look(2), 63);
        for (int server = 0; server < 6; server++) {
            due.is("down(" + server + ")", x.down(server), 0);
            due.is("server(" + server + ", 0)", x.server(server, 0), 0);
            due.is("look(2)", x.look(2), 63 - (2 << server) + 1);
            due.is("down(" + server + ") again", x.down(server), -1);
        }
        for (int server = 5; server >= 0; server--) {
            due.is("up(" + server + ")", x.up(server), true);
            due.is("server(" + server + ", 0)", x.server(server, 0), 1);
        }
        due.is("look(2)", x.look(2), 63);
    }

    /** Terms 1: "each with a STORE: values of some KEYS (none at first)". */
    private static void storesAtFirst() {
        for (int server = 0; server < 6; server++) {
            SpanMap x = new SpanMap();
            due.is("server(" + server + ", 2)", x.server(server, 2), 0);
            for (int key = 0; key < 1000; key += 3) {
                due.is("stored(" + server + ", " + key + ")", x.stored(server, key), 0);
            }
        }
        SpanMap x = new SpanMap();
        due.is("spare()", x.spare(), 0);
        due.is("look(9)", x.look(9), 0);
        due.is("sound()", x.sound(), 1);
    }

    /** Terms 1: "values 1 .. 99999". */
    private static void values() {
        for (int value : Edges.inside(1, 99999)) {
            SpanMap x = new SpanMap();
            x.fetch(0);
            due.is("write(0, 3, " + value + ")", x.write(0, 3, value), 0);
            due.is("insist(0, 4, " + value + ")", x.insist(0, 4, value), 0);
            due.is("read(0, 3)", x.read(0, 3), value);
            due.is("stored(0, 4)", x.stored(0, 4), value);
            due.is("server(0, 2)", x.server(0, 2), 2);
        }
        for (int value : Edges.outside(1, 99999)) {
            edges.refused(RICH, -1, "write(1, 5, " + value + ")", x -> x.write(1, 5, value));
            edges.refused(RICH, -1, "insist(1, 5, " + value + ")", x -> x.insist(1, 5, value));
            edges.refused(RICH, -1, "write without a cache", x -> x.write(2, 5, value));
            edges.refused(RICH, -1, "insist of one that is stale", x -> x.insist(0, 5, value));
        }
    }

    /** As many spans as told, 0, 1, 2, .., each but the last of one key; weight 2 at 990 and at 999. */
    private static Edges.Run spans(int n) {
        return x -> {
            x.fetch(0);
            x.write(0, 990, 1);
            x.write(0, 999, 1);
            for (int i = 1; i < n; i++) {
                x.split(i - 1, i);
            }
        };
    }

    /** Terms 1: "SPANS, 32 at most". */
    private static void atMost32Spans() {
        SpanMap x = Edges.made(spans(31));
        due.is("span(-1, 0)", x.span(-1, 0), 31);
        due.is("split, the 32nd comes", x.split(30, 40), 32);
        due.is("look(1)", x.look(1), 32);
        due.is("split, 32 there are", x.split(40, 50), -1);
        x = Edges.made(spans(31));
        due.is("middle, the 32nd comes", x.middle(30), 991);
        due.is("look(1)", x.look(1), 32);
        Edges.Run full = spans(32);
        edges.refused(full, -1, "split(31, 40)", y -> y.split(31, 40));
        edges.refused(full, -1, "split(31, 999)", y -> y.split(31, 999));
        edges.refused(full, -1, "middle(31)", y -> y.middle(31));
        edges.refused(full, -1, "split(500, 600), no such low", y -> y.split(500, 600));
        edges.refused(full, -1, "middle(32), no such low", y -> y.middle(32));
        edges.refused(full, -1, "join(500), no such low", y -> y.join(500));
        edges.refused(full, -1, "move(500, 1), no such low", y -> y.move(500, 1));
        x = Edges.made(full);
        due.is("middleOf(31) is there", x.middleOf(31), 991);
        due.is("span(31, 0)", x.span(31, 0), 31);
        due.is("span(32, 0)", x.span(32, 0), -1);
        due.is("move of the last", x.move(31, 1), 0);
        due.is("join(0)", x.join(0), 33);
        due.is("split, 31 there are", x.split(0, 1), 34);
        due.is("look(1)", x.look(1), 32);
    }

    /** Terms 1: "each from its LOW to the next one's LOW (the last one to 1000)". */
    private static void endsOfSpans() {
        SpanMap x = new SpanMap();
        due.is("span(0, 1)", x.span(0, 1), 1000);
        x.split(0, 1);
        x.split(1, 999);
        int[] lows = {0, 1, 999};
        int[] ends = {1, 999, 1000};
        for (int i = 0; i < 3; i++) {
            due.is("span(" + i + ", 0)", x.span(i, 0), lows[i]);
            due.is("span(" + i + ", 1)", x.span(i, 1), ends[i]);
            due.is("lowOf the low", x.lowOf(lows[i]), lows[i]);
            due.is("lowOf the last key", x.lowOf(ends[i] - 1), lows[i]);
        }
        x.fetch(0);
        x.write(0, 0, 1);
        x.write(0, 1, 1);
        x.write(0, 998, 1);
        x.write(0, 999, 1);
        due.is("weight(0)", x.weight(0), 2);
        due.is("weight(1)", x.weight(1), 4);
        due.is("weight(2)", x.weight(2), 2);
        due.is("span(0, 6)", x.span(0, 6), 1);
        due.is("span(1, 6)", x.span(1, 6), 2);
        due.is("span(2, 6)", x.span(2, 6), 1);
    }

    /** Terms 1: "At first there is one, LOW 0, of SERVER 0, of EPOCH 1." */
    private static void theFirstSpan() {
        SpanMap x = new SpanMap();
        int[] want = {0, 1000, 0, 1, -1, 0, 0};
        for (int what = 0; what < want.length; what++) {
            due.is("span(0, " + what + ")", x.span(0, what), want[what]);
        }
        due.is("span(1, 0)", x.span(1, 0), -1);
        due.is("look(0)", x.look(0), 1);
        due.is("look(1)", x.look(1), 1);
        due.is("fetch(5)", x.fetch(5), 1);
    }

    /** Terms 1: "EPOCH of THE MAP: the greatest that any SPAN ever had. A CHANGE makes it one more". */
    private static void epochOfTheMap() {
        SpanMap x = new SpanMap();
        due.is("split", x.split(0, 500), 2);
        due.is("join: both spans of epoch 2 are gone", x.join(0), 3);
        due.is("look(0)", x.look(0), 3);
        due.is("move: no change yet", x.move(0, 1), 0);
        x.step(0, 2);
        due.is("look(0) while it is frozen", x.look(0), 3);
        x.step(0, 1);
        due.is("look(0) as it is switched", x.look(0), 4);
        x.step(0, 1);
        due.is("look(0) as it is done", x.look(0), 4);
        due.is("a refused change", x.join(0), -1);
        due.is("look(0)", x.look(0), 4);
        x.write(0, 0, 1);
        x.age();
        x.down(5);
        due.is("look(0), no change", x.look(0), 4);
        due.is("fetch", x.fetch(0), 4);
    }

    /** Terms 1: "SPANS that come by it, or have another OWNER by it, have that EPOCH." The others keep theirs. */
    private static void epochsOfSpans() {
        SpanMap x = new SpanMap();
        x.split(0, 300);
        x.split(300, 600);
        x.split(600, 900);
        int[] splits = {2, 3, 4, 4};
        for (int i = 0; i < 4; i++) {
            due.is("span(" + i + ", 3) behind splits", x.span(i, 3), splits[i]);
        }
        x.join(300);
        int[] joined = {2, 5, 4};
        for (int i = 0; i < 3; i++) {
            due.is("span(" + i + ", 3) behind a join", x.span(i, 3), joined[i]);
        }
        x.move(0, 2);
        x.step(0, 100);
        int[] moved = {6, 5, 4};
        for (int i = 0; i < 3; i++) {
            due.is("span(" + i + ", 3) behind a move", x.span(i, 3), moved[i]);
        }
    }

    /** Terms 1: "WEIGHT of a KEY: 0 at first, one more by each READ that is done, two more by each WRITE." */
    private static void weightOfKeys() {
        SpanMap x = new SpanMap();
        due.is("weight(0)", x.weight(0), 0);
        due.is("hot(0, 0)", x.hot(0, 0), -1);
        x.fetch(0);
        x.read(0, 7);
        due.is("behind a read of no value", x.hot(0, 1), 1);
        x.write(0, 7, 1);
        due.is("behind a write", x.hot(0, 1), 3);
        x.write(0, 7, 1);
        due.is("behind a write of the same", x.hot(0, 1), 5);
        x.insist(0, 7, 1);
        due.is("behind insist()", x.hot(0, 1), 7);
        x.scan(0, 6, 8);
        due.is("behind scan()", x.hot(0, 1), 8);
        due.is("the others that were read", x.hot(1, 1) + x.hot(2, 1), 2);
        due.is("weight(0)", x.weight(0), 10);
        Due.run(x, "read 0 7;write 0 7 2;");
        due.is("behind a script", x.hot(0, 1), 11);
        x.split(0, 500);
        due.is("insist() that fetches adds two, not four", x.insist(0, 7, 1), 0);
        due.is("behind it", x.hot(0, 1), 13);
    }

    /** Terms 1: weight comes by what "is done": not by askings answered 1, 2, 3 or 4. */
    private static void weightOfWhatIsNotDone() {
        SpanMap x = new SpanMap();
        x.read(0, 1);
        x.write(0, 1, 1);
        x.insist(0, 1, 1);
        due.is("answered 1", x.weight(0), 0);
        x.fetch(0);
        x.down(0);
        x.read(0, 1);
        x.write(0, 1, 1);
        due.is("answered 2", x.weight(0), 0);
        x.up(0);
        x.split(0, 2);
        x.read(0, 1);
        x.write(0, 1, 1);
        x.scan(0, 0, 1);
        due.is("answered 3", x.weight(0), 0);
        x.fetch(0);
        x.move(0, 1);
        x.step(0, 2);
        x.write(0, 1, 1);
        x.insist(0, 1, 1);
        due.is("answered 4", x.weight(0), 0);
        due.is("count(5)", x.count(5), 2);
        due.is("no value by these", x.server(0, 2), 0);
    }

    /** Terms 1: "To AGE: each is half of it (downwards)." */
    private static void aging() {
        SpanMap x = new SpanMap();
        due.is("age() of nothing", x.age(), 0);
        x.fetch(0);
        for (int weight = 1; weight <= 5; weight++) {
            for (int i = 0; i < weight; i++) {
                x.read(0, weight * 10);
            }
        }
        due.is("age(): each downwards, not all together", x.age(), 0 + 1 + 1 + 2 + 2);
        due.is("hot(0, 0): of several the least", x.hot(0, 0), 40);
        due.is("hot(1, 0)", x.hot(1, 0), 50);
        due.is("hot(3, 0)", x.hot(3, 0), 30);
        due.is("hot(4, 0): of weight 1 none is left", x.hot(4, 0), -1);
        due.is("age()", x.age(), 2);
        due.is("age()", x.age(), 0);
        due.is("age() of nothing", x.age(), 0);
        due.is("load(0)", x.load(0), 0);
    }

    /** Terms 1: "WEIGHT of a SPAN: of its KEYS together; of a SERVER: of SPANS that it OWNS." */
    private static void weightOfSpansAndServers() {
        SpanMap x = Edges.made(Edges.moving(3, false));
        due.is("weight(0)", x.weight(0), 2);
        due.is("weight(1)", x.weight(1), 10);
        due.is("weight(2)", x.weight(2), 2);
        due.is("load(0), copied is not owned", x.load(0), 14);
        due.is("load(1)", x.load(1), 0);
        x.step(0, 1);
        due.is("load(0), switched", x.load(0), 4);
        due.is("load(1)", x.load(1), 10);
        x.down(1);
        due.is("load(1), down", x.load(1), 10);
        due.is("weight(1), its owner down", x.weight(1), 10);
    }

    /** Terms 1: "CLIENTS 0 .. 5". */
    private static void clients() {
        for (int client = 0; client < 6; client++) {
            SpanMap x = new SpanMap();
            due.is("fetch(" + client + ")", x.fetch(client), 1);
            due.is("write(" + client + ", 1, 2)", x.write(client, 1, 2), 0);
            due.is("read(" + client + ", 1)", x.read(client, 1), 2);
            due.is("insist(" + client + ", 1, 3)", x.insist(client, 1, 3), 0);
            due.is("scan(" + client + ", 1, 1)", x.scan(client, 1, 1), 1);
            due.is("clientOf(" + client + ", 2)", x.clientOf(client, 2), 4);
            due.is("clientOf another", x.clientOf((client + 1) % 6, 2), 0);
        }
        for (int client : Edges.outside(0, 5)) {
            edges.refused(RICH, -1, "fetch(" + client + ")", x -> x.fetch(client));
            edges.refused(RICH, -10, "read(" + client + ", 5)", x -> x.read(client, 5));
            edges.refused(RICH, -1, "write(" + client + ", 5, 1)", x -> x.write(client, 5, 1));
            edges.refused(RICH, -1, "insist(" + client + ", 5, 1)", x -> x.insist(client, 5, 1));
            edges.refused(RICH, -10, "scan(" + client + ", 5, 6)", x -> x.scan(client, 5, 6));
            for (int k = 0; k < 6; k++) {
                int what = k;
                edges.refused(RICH, -1, "clientOf(" + client + ", " + what + ")", x -> x.clientOf(client, what));
            }
        }
    }

    /** Terms 1: "each has a CACHE: THE MAP as it was when it was FETCHED (none at first)". */
    private static void noCacheAtFirst() {
        SpanMap x = new SpanMap();
        for (int client = 0; client < 6; client++) {
            due.is("clientOf(" + client + ", 0)", x.clientOf(client, 0), 0);
            due.is("clientOf(" + client + ", 1)", x.clientOf(client, 1), 0);
            due.is("read(" + client + ", 0)", x.read(client, 0), -2);
            due.is("fetch(" + client + ")", x.fetch(client), 1);
            due.is("clientOf(" + client + ", 0)", x.clientOf(client, 0), 1);
            due.is("read(" + client + ", 0)", x.read(client, 0), 0);
        }
    }

    /** Terms 1: the CACHE is "as it was when it was FETCHED": what THE MAP becomes later is not in it. */
    private static void cacheAsItWasFetched() {
        SpanMap x = new SpanMap();
        x.split(0, 500);
        x.fetch(0);
        x.split(500, 501);
        due.is("clientOf(0, 0)", x.clientOf(0, 0), 2);
        due.is("one of its two spans is stale", x.clientOf(0, 1), 1);
        due.is("read 499", x.read(0, 499), 0);
        due.is("read 500", x.read(0, 500), -4);
        due.is("read 501", x.read(0, 501), -4);
        due.is("fetch(1)", x.fetch(1), 3);
        due.is("another's fetching is not its own", x.read(0, 500), -4);
        due.is("clientOf(0, 0)", x.clientOf(0, 0), 2);
        due.is("fetch(0)", x.fetch(0), 3);
        due.is("read 500", x.read(0, 500), 0);
        due.is("read 501", x.read(0, 501), 0);
    }

    /** Terms 1: "1 NO CACHE; else": it is ahead of DOWN, STALE and FROZEN, and counted. */
    private static void noCacheIsFirst() {
        Edges.Run allDown = Edges.then(Edges.moving(3, false), x -> {
            for (int server = 0; server < 6; server++) {
                x.down(server);
            }
        });
        edges.countsOnly(allDown, -2, "read(2, 150)", x -> x.read(2, 150), "clientOf(2, 2)", 1, "count(2)", 1);
        edges.countsOnly(allDown, 1, "write(2, 150, 1)", x -> x.write(2, 150, 1), "clientOf(2, 2)", 1, "count(2)", 1);
        edges.countsOnly(allDown, 1, "insist(2, 150, 1)", x -> x.insist(2, 150, 1), "clientOf(2, 2)", 1, "count(2)", 1);
        edges.countsOnly(allDown, -2, "scan(2, 150, 160)", x -> x.scan(2, 150, 160), "clientOf(2, 2)", 1, "count(2)", 1);
        edges.countsOnly(RICH, -2, "read(5, 0)", x -> x.read(5, 0), "clientOf(5, 2)", 1, "count(2)", 1);
    }

    /** Terms 1: "2 its OWNER there is DOWN; 3 it is STALE": 2 is ahead of 3 and of 4. */
    private static void downAheadOfStale() {
        Edges.Run stale = x -> {
            x.fetch(3);
            x.split(0, 500);
            x.down(0);
        };
        edges.countsOnly(stale, -3, "read(3, 0)", x -> x.read(3, 0), "clientOf(3, 2)", 1, "count(3)", 1);
        edges.countsOnly(stale, 2, "write(3, 0, 1)", x -> x.write(3, 0, 1), "clientOf(3, 2)", 1, "count(3)", 1);
        edges.countsOnly(stale, 2, "insist(3, 0, 1)", x -> x.insist(3, 0, 1), "clientOf(3, 2)", 1, "count(3)", 1);
        edges.countsOnly(stale, -3, "scan(3, 0, 9)", x -> x.scan(3, 0, 9), "clientOf(3, 2)", 1, "count(3)", 1);
        Edges.Run frozen = Edges.then(Edges.moving(3, false), x -> x.down(0));
        edges.countsOnly(frozen, 2, "write(0, 150, 1)", x -> x.write(0, 150, 1), "clientOf(0, 2)", 8, "count(3)", 1);
        SpanMap x = Edges.made(stale);
        x.up(0);
        due.is("read, up again", x.read(3, 0), -4);
    }

    /** Terms 1: "its OWNER there" is the CACHE's one: that THE MAP's is DOWN does not matter. */
    private static void ownerThereIsTheCaches() {
        SpanMap x = Edges.made(Edges.moving(4, false));
        x.down(1);
        due.is("client 1 has the old owner, which is up: stale", x.read(1, 150), -4);
        due.is("client 0 has the new one, which is down", x.read(0, 150), -3);
        x.up(1);
        x.down(0);
        due.is("client 1: the old one is down", x.read(1, 150), -3);
        due.is("client 0: the new one is up", x.read(0, 150), 0);
        due.is("client 0: another span of the old one", x.read(0, 99), -3);
    }

    /** Terms 1: STALE is "another OWNER or EPOCH": another EPOCH alone is enough, also if the OWNER is the same again. */
    private static void staleByEpochAlone() {
        SpanMap x = new SpanMap();
        x.fetch(0);
        x.split(0, 500);
        x.join(0);
        due.is("the same span again, of a later epoch", x.read(0, 5), -4);
        x.fetch(0);
        due.is("read", x.read(0, 5), 0);
        x.move(0, 1);
        x.step(0, 100);
        x.move(0, 0);
        x.step(1, 100);
        due.is("span(0, 2): it is back", x.span(0, 2), 0);
        due.is("the same owner again, of a later epoch", x.write(0, 5, 1), 3);
        due.is("named", x.clientOf(0, 5), 5);
    }

    /** Terms 1: STALE by another OWNER; the CACHE's spans that did not change are not STALE. */
    private static void staleByOwner() {
        SpanMap x = Edges.made(Edges.moving(4, false));
        due.is("clientOf(1, 1)", x.clientOf(1, 1), 1);
        due.is("read 99", x.read(1, 99), 0);
        due.is("read 100", x.read(1, 100), -4);
        due.is("read 199", x.read(1, 199), -4);
        due.is("read 200", x.read(1, 200), 201);
        due.is("named", x.clientOf(1, 5), 4);
        x.step(0, 100);
        due.is("done: stale still", x.read(1, 100), -4);
    }

    /** Terms 1: "THE MAP's SPAN with that KEY": it is the KEY that counts, not the CACHE's SPAN. */
    private static void staleSpansAreTheKeys() {
        SpanMap x = new SpanMap();
        x.split(0, 100);
        x.split(100, 200);
        x.fetch(0);
        x.join(0);
        due.is("two of three are stale", x.clientOf(0, 1), 2);
        due.is("read 99", x.read(0, 99), -4);
        due.is("read 100", x.read(0, 100), -4);
        due.is("read 200", x.read(0, 200), 0);
        x.split(0, 50);
        due.is("two still", x.clientOf(0, 1), 2);
        due.is("read 50", x.read(0, 50), -4);
    }

    /** Terms 1: "(that EPOCH is NAMED)": the EPOCH of THE MAP's SPAN with that KEY, not of THE MAP. */
    private static void epochNamed() {
        Edges.Run three = x -> {
            x.fetch(0);
            x.split(0, 100);
            x.split(100, 200);
            x.split(200, 300);
        };
        edges.countsOnly(three, -4, "read(0, 99)", x -> x.read(0, 99),
            "clientOf(0, 2)", 1, "clientOf(0, 4)", 1, "clientOf(0, 5)", 2, "count(4)", 1);
        edges.countsOnly(three, 3, "write(0, 100, 1)", x -> x.write(0, 100, 1),
            "clientOf(0, 2)", 1, "clientOf(0, 4)", 1, "clientOf(0, 5)", 3, "count(4)", 1);
        edges.countsOnly(three, -4, "scan(0, 200, 260)", x -> x.scan(0, 200, 260),
            "clientOf(0, 2)", 1, "clientOf(0, 4)", 1, "clientOf(0, 5)", 4, "count(4)", 1);
        SpanMap x = Edges.made(three);
        x.read(0, 999);
        x.read(0, 0);
        due.is("the latest is named, though it is less", x.clientOf(0, 5), 2);
        x.fetch(0);
        x.read(0, 0);
        x.down(0);
        x.read(0, 0);
        x.fetch(1);
        due.is("another answer names none", x.clientOf(0, 5), 2);
        due.is("of another client none is named", x.clientOf(1, 5), 0);
    }

    /** Terms 1: "3 it is STALE ..; 4 it is a WRITE, and that SPAN is FROZEN": 3 is ahead of 4. */
    private static void staleAheadOfFrozen() {
        SpanMap x = new SpanMap();
        x.fetch(0);
        x.split(0, 500);
        x.fetch(1);
        x.move(0, 1);
        x.step(0, 2);
        due.is("frozen", x.span(0, 5), 1);
        due.is("write of the stale one", x.write(0, 5, 1), 3);
        due.is("write of the other", x.write(1, 5, 1), 4);
        due.is("insist of the stale one: then 4", x.insist(0, 5, 1), 4);
        due.is("count(4)", x.count(4), 2);
        due.is("count(5)", x.count(5), 2);
    }

    /** Terms 1: "4 it is a WRITE, and that SPAN is FROZEN": a READ is done, and WRITES beside it. */
    private static void frozenIsForWritesAlone() {
        Edges.Run frozen = Edges.moving(3, false);
        edges.countsOnly(frozen, 4, "write(0, 100, 9)", x -> x.write(0, 100, 9), "clientOf(0, 2)", 8, "count(5)", 1);
        edges.countsOnly(frozen, 4, "write(0, 199, 9)", x -> x.write(0, 199, 9), "clientOf(0, 2)", 8, "count(5)", 1);
        edges.countsOnly(frozen, 4, "insist(0, 150, 9)", x -> x.insist(0, 150, 9), "clientOf(0, 2)", 8, "count(5)", 1);
        SpanMap x = Edges.made(frozen);
        due.is("read(0, 100)", x.read(0, 100), 101);
        due.is("read(0, 199)", x.read(0, 199), 0);
        due.is("scan(0, 98, 104)", x.scan(0, 98, 104), 5);
        due.is("write(0, 99, 9)", x.write(0, 99, 9), 0);
        due.is("write(0, 200, 9)", x.write(0, 200, 9), 0);
    }

    /** Terms 1: "a READ answers the value, 0 if there is none", of the OWNER's STORE alone. */
    private static void readOfNoValue() {
        SpanMap x = Edges.made(Edges.moving(4, false));
        due.is("read of a value", x.read(0, 104), 105);
        due.is("read of none", x.read(0, 105), 0);
        x.write(0, 104, 7);
        due.is("read of the new owner's value", x.read(0, 104), 7);
        due.is("the old one has the old value", x.stored(0, 104), 105);
        x.write(0, 107, 7);
        due.is("the old one has none", x.stored(0, 107), 0);
        due.is("read", x.read(0, 107), 7);
    }
}
