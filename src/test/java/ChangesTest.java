/** Promises 1, 6 to 8, 23, 26, 33, 34, 39: spans, their changes, and who owned what. */
public final class ChangesTest {
    private static final Due due = new Due("ChangesTest");

    public static void main(String[] args) {
        newObject();
        splitting();
        atMost32();
        middles();
        joining();
        spans();
        history();
        due.end();
    }

    private static void newObject() {
        SpanMap x = new SpanMap();
        due.is("spans", x.span(-1, 0), 1);
        due.is("low", x.span(0, 0), 0);
        due.is("end", x.span(0, 1), 1000);
        due.is("owner", x.span(0, 2), 0);
        due.is("epoch", x.span(0, 3), 1);
        for (int server = 0; server < 6; server++) {
            due.is("up", x.server(server, 0), 1);
            due.is("values", x.server(server, 2), 0);
        }
        for (int what = 0; what < 15; what++) {
            due.is("count", x.count(what), 0);
        }
        due.is("chunk", x.look(6), 4);
        due.is("NONE", SpanMap.NONE, -1);
    }

    private static void splitting() {
        SpanMap x = new SpanMap();
        due.is("split(0, 0)", x.split(0, 0), -1);
        due.is("split(0, 1000)", x.split(0, 1000), -1);
        due.is("split(0, -5)", x.split(0, -5), -1);
        due.is("split(1, 5)", x.split(1, 5), -1);
        due.is("split(-1, 5)", x.split(-1, 5), -1);
        due.is("split(0, 999)", x.split(0, 999), 2);
        due.is("split(999, 1000)", x.split(999, 1000), -1);
        due.is("split(0, 999) again", x.split(0, 999), -1);
        due.is("split(0, 1)", x.split(0, 1), 3);
        due.is("split(1, 2)", x.split(1, 2), 4);
        due.is("spans", x.look(1), 4);
        due.is("lows", x.span(0, 0) * 1000000L + x.span(1, 0) * 100000L + x.span(2, 0) * 10000L + x.span(3, 0), 120999);
        due.is("epochs", x.span(0, 3) * 1000 + x.span(1, 3) * 100 + x.span(2, 3) * 10 + x.span(3, 3), 3442);
        due.is("count(6)", x.count(6), 3);
        due.is("look(0)", x.look(0), 4);
    }

    private static void atMost32() {
        SpanMap x = new SpanMap();
        x.fetch(0);
        x.write(0, 990, 1);
        x.write(0, 999, 1);
        for (int i = 1; i < 32; i++) {
            due.is("split " + i, x.split(i - 1, i), i + 1);
        }
        due.is("split, 32 there are", x.split(31, 40), -1);
        due.is("middle there is", x.middleOf(31), 991);
        due.is("middle, 32 there are", x.middle(31), -1);
        due.is("spans", x.span(-1, 0), 32);
        due.is("join", x.join(0), 33);
        due.is("middle now", x.middle(31), 991);
    }

    private static void middles() {
        SpanMap x = new SpanMap();
        due.is("no weight", x.middle(0), -1);
        x.fetch(0);
        x.write(0, 0, 1);
        due.is("weight at the low", x.middleOf(0), 1);
        x.read(0, 999);
        x.read(0, 999);
        due.is("half is enough", x.middleOf(0), 1);
        x.read(0, 999);
        due.is("the last key is heavier", x.middleOf(0), -1);
        due.is("middle then", x.middle(0), -1);
        due.is("middle of none such", x.middle(7), -1);
        x.write(0, 500, 3);
        due.is("middleOf(0)", x.middleOf(0), 501);
        due.is("middleOf(1)", x.middleOf(1), -1);
        due.is("middleOf(-1)", x.middleOf(-1), -1);
        due.is("middle(0)", x.middle(0), 501);
        due.is("epoch", x.look(0), 2);
        due.is("spans", x.look(1), 2);
        due.is("count(6)", x.count(6), 1);
        x.split(0, 1);
        due.is("one key", x.middleOf(0), -1);
        due.is("middle of one key", x.middle(0), -1);
        x.move(1, 3);
        due.is("middle while a move goes on", x.middle(1), -1);
    }

    private static void joining() {
        SpanMap x = new SpanMap();
        due.is("none next to it", x.join(0), -1);
        x.split(0, 300);
        x.split(300, 600);
        due.is("no such span", x.join(5), -1);
        due.is("the last", x.join(600), -1);
        due.is("join(300)", x.join(300), 4);
        due.is("spans", x.look(1), 2);
        due.is("end", x.span(1, 1), 1000);
        due.is("epoch of the joined", x.span(1, 3), 4);
        due.is("epoch of the other", x.span(0, 3), 2);
        due.is("count(7)", x.count(7), 1);
        x.move(300, 1);
        due.is("move of the next one", x.join(0), -1);
        x.step(0, 4);
        due.is("two owners", x.join(0), -1);
        x.move(0, 1);
        due.is("move of the first", x.join(0), -1);
        x.step(1, 3);
        due.is("switched, the move goes on", x.join(0), -1);
        x.step(1, 1);
        due.is("one owner now", x.join(0), 7);
        due.is("owner", x.span(0, 2), 1);
        due.is("spans", x.look(1), 1);
        due.is("changeOf(7, 2)", x.changeOf(7, 2), 1);
    }

    private static void spans() {
        SpanMap x = new SpanMap();
        x.fetch(0);
        x.write(0, 3, 1);
        x.write(0, 4, 1);
        x.write(0, 900, 1);
        x.split(0, 500);
        due.is("span(0, 6)", x.span(0, 6), 2);
        due.is("span(1, 6)", x.span(1, 6), 1);
        due.is("span(1, 1)", x.span(1, 1), 1000);
        due.is("span(0, 1)", x.span(0, 1), 500);
        due.is("span(2, 0)", x.span(2, 0), -1);
        due.is("span(-2, 0)", x.span(-2, 0), -1);
        due.is("span(0, 7)", x.span(0, 7), -1);
        due.is("span(0, -1)", x.span(0, -1), -1);
        x.move(500, 4);
        due.is("span(1, 4)", x.span(1, 4), 0);
        due.is("span(0, 4)", x.span(0, 4), -1);
        x.step(0, 2);
        due.is("span(1, 5)", x.span(1, 5), 1);
        due.is("span(0, 5)", x.span(0, 5), 0);
        x.step(0, 1);
        due.is("span(1, 5)", x.span(1, 5), 0);
        due.is("span(1, 4)", x.span(1, 4), 0);
        due.is("span(1, 2)", x.span(1, 2), 4);
        due.is("span(1, 3)", x.span(1, 3), 3);
        due.is("span(0, 3)", x.span(0, 3), 2);
        x.step(0, 1);
        due.is("span(1, 4)", x.span(1, 4), -1);
        due.is("lowOf(0)", x.lowOf(0), 0);
        due.is("lowOf(499)", x.lowOf(499), 0);
        due.is("lowOf(500)", x.lowOf(500), 500);
        due.is("lowOf(999)", x.lowOf(999), 500);
        due.is("lowOf(1000)", x.lowOf(1000), -1);
        due.is("lowOf(-1)", x.lowOf(-1), -1);
    }

    private static void history() {
        SpanMap x = new SpanMap();
        x.split(0, 500);        // 2
        x.move(500, 3);
        x.move(0, 1);
        x.step(1, 3);           // 3: 0 .. 499 to 1
        x.step(0, 3);           // 4: 500 .. 999 to 3
        x.step(0, 1);
        x.move(500, 1);
        x.step(2, 4);           // 5: 500 .. 999 to 1
        x.step(1, 1);
        x.join(0);              // 6
        due.is("owned(1, 600)", x.owned(1, 600), 0);
        due.is("owned(3, 600)", x.owned(3, 600), 0);
        due.is("owned(4, 600)", x.owned(4, 600), 3);
        due.is("owned(5, 600)", x.owned(5, 600), 1);
        due.is("owned(6, 600)", x.owned(6, 600), 1);
        due.is("owned(2, 499)", x.owned(2, 499), 0);
        due.is("owned(3, 499)", x.owned(3, 499), 1);
        due.is("owned(4, 499)", x.owned(4, 499), 1);
        due.is("owned(0, 0)", x.owned(0, 0), -1);
        due.is("owned(7, 0)", x.owned(7, 0), -1);
        due.is("owned(1, 1000)", x.owned(1, 1000), -1);
        due.is("owned(1, -1)", x.owned(1, -1), -1);
        due.is("passed(600, 0)", x.passed(600, 0), 4);
        due.is("passed(600, 1)", x.passed(600, 1), 5);
        due.is("passed(600, 2)", x.passed(600, 2), -1);
        due.is("passed(0, 0)", x.passed(0, 0), 3);
        due.is("passed(0, 1)", x.passed(0, 1), -1);
        due.is("passed(0, -1)", x.passed(0, -1), -1);
        due.is("passed(0, max)", x.passed(0, Integer.MAX_VALUE), -1);
        due.is("passed(499, 0): the end is not within", x.passed(499, 0), 3);
        due.is("passed(500, 0)", x.passed(500, 0), 4);
        due.is("owned(3, 500)", x.owned(3, 500), 0);
        due.is("passed(1000, 0)", x.passed(1000, 0), -1);
        long[][] rows = {{0, -1, -1}, {1, 0, 0}, {3, 0, 1}, {3, 500, 3}, {3, 500, 1}, {2, 0, 1}};
        for (int epoch = 1; epoch <= 6; epoch++) {
            for (int what = 0; what < 3; what++) {
                due.is("changeOf(" + epoch + ", " + what + ")", x.changeOf(epoch, what), rows[epoch - 1][what]);
            }
        }
        due.is("changeOf(0, 0)", x.changeOf(0, 0), -1);
        due.is("changeOf(7, 0)", x.changeOf(7, 0), -1);
        due.is("changeOf(2, 3)", x.changeOf(2, 3), -1);
        due.is("changeOf(2, -1)", x.changeOf(2, -1), -1);
    }
}
