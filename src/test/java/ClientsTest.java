/** Promises 2 to 5, 30 and 36: clients and their askings. */
public final class ClientsTest {
    private static final Due due = new Due("ClientsTest");

    public static void main(String[] args) {
        fetching();
        readingAndWriting();
        wrongInputs();
        staleAndNamed();
        downAheadOfStale();
        insisting();
        frozenAndFullTrail();
        scanning();
        due.end();
    }

    private static void fetching() {
        SpanMap x = new SpanMap();
        due.is("fetch(0)", x.fetch(0), 1);
        due.is("fetch(5)", x.fetch(5), 1);
        due.is("fetch(6)", x.fetch(6), -1);
        due.is("fetch(-1)", x.fetch(-1), -1);
        due.is("fetch(min)", x.fetch(Integer.MIN_VALUE), -1);
        x.split(0, 10);
        due.is("clientOf(0, 0) before", x.clientOf(0, 0), 1);
        due.is("fetch(0) behind a split", x.fetch(0), 2);
        due.is("clientOf(0, 0)", x.clientOf(0, 0), 2);
        due.is("clientOf(5, 0)", x.clientOf(5, 0), 1);
        due.is("clientOf(1, 0)", x.clientOf(1, 0), 0);
        due.is("clientOf(0, 6)", x.clientOf(0, 6), -1);
        due.is("clientOf(0, -1)", x.clientOf(0, -1), -1);
        due.is("clientOf(-1, 0)", x.clientOf(-1, 0), -1);
        due.is("clientOf(6, 0)", x.clientOf(6, 0), -1);
    }

    private static void readingAndWriting() {
        SpanMap x = new SpanMap();
        due.is("read without a cache", x.read(2, 7), -2);
        due.is("write without a cache", x.write(2, 7, 9), 1);
        x.fetch(2);
        due.is("read none", x.read(2, 7), 0);
        due.is("write", x.write(2, 7, 99999), 0);
        due.is("write", x.write(2, 999, 1), 0);
        due.is("read", x.read(2, 7), 99999);
        due.is("read", x.read(2, 999), 1);
        due.is("write again", x.write(2, 7, 12), 0);
        due.is("read again", x.read(2, 7), 12);
        due.is("weight of all", x.weight(0), 2 * 3 + 4);
        due.is("stored(0, 7)", x.stored(0, 7), 12);
        due.is("askings", x.clientOf(2, 2), 9);
        due.is("answered 0", x.clientOf(2, 3), 7);
        due.is("answered 3", x.clientOf(2, 4), 0);
        due.is("named", x.clientOf(2, 5), 0);
        due.is("askings of another", x.clientOf(1, 2), 0);
        due.is("count(0)", x.count(0), 4);
        due.is("count(1)", x.count(1), 3);
        due.is("count(2)", x.count(2), 2);
    }

    private static void wrongInputs() {
        SpanMap x = new SpanMap();
        x.fetch(0);
        due.is("read(6, 0)", x.read(6, 0), -10);
        due.is("read(-1, 0)", x.read(-1, 0), -10);
        due.is("read(0, -1)", x.read(0, -1), -10);
        due.is("read(0, 1000)", x.read(0, 1000), -10);
        due.is("write(0, 1000, 1)", x.write(0, 1000, 1), -1);
        due.is("write(0, -1, 1)", x.write(0, -1, 1), -1);
        due.is("write(6, 0, 1)", x.write(6, 0, 1), -1);
        due.is("write(0, 0, 0)", x.write(0, 0, 0), -1);
        due.is("write(0, 0, 100000)", x.write(0, 0, 100000), -1);
        due.is("insist(0, 0, 100000)", x.insist(0, 0, 100000), -1);
        due.is("insist(6, 0, 1)", x.insist(6, 0, 1), -1);
        due.is("insist(0, 1000, 1)", x.insist(0, 1000, 1), -1);
        due.is("no asking was counted", x.clientOf(0, 2), 0);
    }

    private static void staleAndNamed() {
        SpanMap x = new SpanMap();
        x.fetch(0);
        x.split(0, 100);
        x.split(100, 200);
        due.is("stale spans", x.clientOf(0, 1), 1);
        due.is("read 50", x.read(0, 50), -4);
        due.is("named: the span's epoch, not the map's", x.clientOf(0, 5), 2);
        due.is("write 150", x.write(0, 150, 1), 3);
        due.is("named", x.clientOf(0, 5), 3);
        due.is("answered 3", x.clientOf(0, 4), 2);
        due.is("count(4)", x.count(4), 2);
        x.fetch(0);
        due.is("stale spans", x.clientOf(0, 1), 0);
        x.split(200, 300);
        due.is("stale spans: one of three", x.clientOf(0, 1), 1);
        due.is("read in a span that stayed", x.read(0, 50), 0);
        due.is("read in a span that was split", x.read(0, 999), -4);
        due.is("named stays till the next", x.clientOf(0, 5), 4);
    }

    private static void downAheadOfStale() {
        SpanMap x = new SpanMap();
        x.fetch(0);
        x.split(0, 500);
        x.down(0);
        due.is("read: down", x.read(0, 1), -3);
        due.is("write: down", x.write(0, 1, 1), 2);
        due.is("insist: down, no fetching", x.insist(0, 1, 1), 2);
        due.is("cache is the old one", x.clientOf(0, 0), 1);
        due.is("no span would be answered 3", x.clientOf(0, 1), 0);
        due.is("count(3)", x.count(3), 3);
        x.up(0);
        due.is("one would be", x.clientOf(0, 1), 1);
        due.is("read: stale", x.read(0, 1), -4);
    }

    private static void insisting() {
        SpanMap x = new SpanMap();
        due.is("insist without a cache", x.insist(1, 3, 4), 1);
        due.is("no fetching by that", x.clientOf(1, 0), 0);
        x.fetch(1);
        x.split(0, 10);
        due.is("insist", x.insist(1, 3, 4), 0);
        due.is("two askings more", x.clientOf(1, 2), 3);
        due.is("one answered 3", x.clientOf(1, 4), 1);
        due.is("one answered 0", x.clientOf(1, 3), 1);
        due.is("fetched", x.clientOf(1, 0), 2);
        due.is("written once", x.stored(0, 3), 4);
        due.is("weight", x.weight(0), 2);
        x.move(0, 2);
        x.step(0, 3);
        x.down(2);
        due.is("insist: stale, then down", x.insist(1, 3, 5), 2);
        due.is("fetched nevertheless", x.clientOf(1, 0), 3);
        due.is("count(3)", x.count(3), 1);
    }

    private static void frozenAndFullTrail() {
        SpanMap x = new SpanMap();
        x.split(0, 500);
        x.fetch(0);
        x.fetch(1);
        x.move(0, 1);
        for (int key = 0; key < 60; key++) {
            due.is("write " + key, x.write(key % 2, key, 1), 0);
        }
        due.is("trail is full", x.moveOf(0, 6), 60);
        due.is("write of a key not in the trail", x.write(0, 60, 1), 4);
        due.is("insist likewise", x.insist(0, 60, 1), 4);
        due.is("span is not frozen", x.span(0, 5), 0);
        due.is("write of a key in the trail", x.write(0, 59, 2), 0);
        due.is("trail as it was", x.moveOf(0, 6), 60);
        due.is("write elsewhere", x.write(0, 600, 1), 0);
        due.is("read of a key not in the trail", x.read(0, 60), 0);
        due.is("count(5)", x.count(5), 2);
        x.fail(0, 1);
        x.step(0, 1);
        due.is("broken, the trail still full", x.write(0, 60, 1), 4);
        due.is("recover", x.recover(0), 6);
        due.is("the move goes on no more", x.write(0, 60, 1), 0);
        x.move(0, 1);
        x.step(1, 17);
        due.is("frozen", x.moveOf(1, 0), 3);
        due.is("write: frozen", x.write(0, 0, 7), 4);
        due.is("read: not refused", x.read(0, 0), 1);
    }

    private static void scanning() {
        SpanMap x = new SpanMap();
        due.is("scan without a cache", x.scan(0, 0, 5), -2);
        due.is("one asking by that", x.clientOf(0, 2), 1);
        x.fetch(0);
        x.write(0, 10, 1);
        x.write(0, 70, 1);
        due.is("scan(0, 10, 70)", x.scan(0, 10, 70), 2);
        due.is("61 keys were read", x.count(0), 61);
        due.is("weight", x.weight(0), 4 + 61);
        due.is("scan(0, 10, 71)", x.scan(0, 10, 71), -10);
        due.is("scan(0, 10, 10)", x.scan(0, 10, 10), 1);
        due.is("scan(0, 999, 999)", x.scan(0, 999, 999), 0);
        due.is("scan(0, 999, 1000)", x.scan(0, 999, 1000), -10);
        due.is("scan(0, -1, 5)", x.scan(0, -1, 5), -10);
        due.is("scan(0, 5, 4)", x.scan(0, 5, 4), -10);
        due.is("scan(6, 5, 6)", x.scan(6, 5, 6), -10);
        due.is("scan(-1, 5, 6)", x.scan(-1, 5, 6), -10);
        due.is("scan of extremes", x.scan(0, Integer.MIN_VALUE, Integer.MAX_VALUE), -10);
        x.split(0, 500);
        x.fetch(0);
        x.split(500, 600);
        int reads = x.count(0);
        due.is("look(7)", x.look(7), 1);
        due.is("scan into a stale span", x.scan(0, 498, 505), -4);
        due.is("those ahead were read", x.count(0) - reads, 2);
        due.is("acts were forgotten", x.look(7), 0);
        x.age();
        due.is("scan of a stale span", x.scan(0, 500, 505), -4);
        due.is("acts were not forgotten", x.look(7), 1);
    }
}
