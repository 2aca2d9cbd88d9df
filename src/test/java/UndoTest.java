/** Promises 22, 46, 47, 48: acts undone, what is counted, the image, and looks. */
public final class UndoTest {
    private static final Due due = new Due("UndoTest");

    public static void main(String[] args) {
        whatIsAnAct();
        whatForgets();
        whatDoesNotForget();
        theLatestSix();
        refusedActsCostNone();
        allIsAsAhead();
        countsStay();
        scriptsUndone();
        historyWrittenAnew();
        images();
        imageAgainstUndoing();
        imageOfMoves();
        trailsUndone();
        looks();
        due.end();
    }

    private static SpanMap filled() {
        SpanMap x = new SpanMap();
        x.fetch(0);
        x.write(0, 10, 1);
        x.write(0, 20, 2);
        return x;
    }

    private static void whatIsAnAct() {
        SpanMap x = filled();
        due.is("undo of none", x.undo(), -1);
        x.split(0, 500);
        due.is("split", x.look(7), 1);
        x.middle(0);
        due.is("middle", x.look(7), 2);
        x.join(0);
        due.is("join", x.look(7), 3);
        x.move(0, 1);
        due.is("move", x.look(7), 4);
        x.step(0, 1);
        due.is("step", x.look(7), 5);
        x.give(0);
        due.is("give", x.look(7), 6);
        due.is("undo", x.undo(), 5);
        due.is("stage", x.moveOf(0, 0), 2);
        due.is("undo", x.undo(), 4);
        due.is("stage", x.moveOf(0, 0), 1);
        due.is("stored(1, 10)", x.stored(1, 10), 0);
        due.is("undo", x.undo(), 3);
        due.is("moves", x.look(3), 0);
        due.is("moveOf(0, 0)", x.moveOf(0, 0), -1);
        due.is("undo", x.undo(), 2);
        due.is("spans", x.look(1), 3);
        due.is("undo", x.undo(), 1);
        due.is("spans", x.look(1), 2);
        due.is("undo", x.undo(), 0);
        due.is("spans", x.look(1), 1);
        due.is("epoch", x.look(0), 1);
        due.is("undo of none", x.undo(), -1);
        x.age();
        due.is("age", x.look(7), 1);
        x.undo();
        due.is("weight", x.weight(0), 4);
        x.move(0, 2);
        x.fail(0, 1);
        x.step(0, 1);
        x.recover(0);
        due.is("recover", x.look(7), 2);
        due.is("undo", x.undo(), 1);
        due.is("broken again", x.moveOf(0, 7), 1);
        due.is("undo", x.undo(), 0);
        due.is("told again", x.moveOf(0, 10), 1);
    }

    private static void whatForgets() {
        for (int what = 0; what < 11; what++) {
            SpanMap x = filled();
            x.move(0, 1);
            x.age();
            x.fetch(0);
            x.age();
            boolean forgets = true;
            switch (what) {
                case 0: x.fetch(1); break;
                case 1: x.read(0, 3); break;
                case 2: x.write(0, 3, 1); break;
                case 3: x.insist(0, 3, 1); break;
                case 4: x.fail(0, 0); break;
                case 5: x.down(4); break;
                case 6: x.down(4); x.age(); x.up(4); break;
                case 7: x.chunk(4); break;
                case 8: x.scan(0, 0, 0); break;
                case 9: x.age(); x.undo(); forgets = false; break;
                default: x.image(true); x.age(); x.image(false); break;
            }
            due.is("forgets " + what, x.look(7) == 0, forgets);
        }
        SpanMap x = filled();
        x.split(0, 500);
        x.move(0, 1);
        x.step(0, 3);
        x.fetch(1);
        x.step(0, 1);
        x.move(0, 2);
        x.step(1, 2);
        due.is("look(7)", x.look(7), 3);
        due.is("insist: fetches, then frozen", x.insist(0, 10, 3), 4);
        due.is("forgotten by the fetching", x.look(7), 0);
    }

    private static void whatDoesNotForget() {
        SpanMap x = filled();
        x.split(0, 500);
        x.read(0, 10);
        x.write(0, 10, 5);
        x.read(1, 10);
        x.insist(1, 10, 5);
        x.write(0, 10, 0);
        x.fetch(6);
        x.fail(0, 1);
        x.down(6);
        x.up(0);
        x.chunk(17);
        x.scan(0, 0, 5);
        x.scan(1, 0, 5);
        x.feed(0, 0, 0, 0, 0);
        x.script();
        x.script();
        x.image(true);
        x.split(0, 500);
        x.step(0, 1);
        due.is("look(7)", x.look(7), 1);
        due.is("undo", x.undo(), 0);
        due.is("spans", x.look(1), 1);
        due.is("read: the cache is not stale now", x.read(0, 10), 1);
    }

    private static void theLatestSix() {
        SpanMap x = new SpanMap();
        for (int i = 1; i <= 9; i++) {
            x.split(i - 1, i);
        }
        due.is("look(7)", x.look(7), 6);
        for (int left = 5; left >= 0; left--) {
            due.is("undo", x.undo(), left);
            due.is("spans", x.look(1), 5 + left - 1);
        }
        due.is("undo", x.undo(), -1);
        due.is("epoch", x.look(0), 4);
        due.is("spans", x.look(1), 4);
        due.is("count(6) stays", x.count(6), 9);
        due.is("split", x.split(3, 9), 5);
        due.is("look(7)", x.look(7), 1);
    }

    private static void refusedActsCostNone() {
        SpanMap x = new SpanMap();
        for (int i = 1; i <= 6; i++) {
            x.split(i - 1, i);
        }
        x.split(0, 5);
        x.middle(0);
        x.join(700);
        x.move(0, 0);
        x.step(0, 1);
        x.give(0);
        x.recover(0);
        Due.run(x, "up 0;");
        due.is("look(7)", x.look(7), 6);
        for (int left = 5; left >= 0; left--) {
            due.is("undo", x.undo(), left);
        }
        due.is("spans", x.look(1), 1);
    }

    private static void allIsAsAhead() {
        SpanMap x = filled();
        x.split(0, 500);
        x.fetch(1);
        x.move(0, 1);
        x.step(0, 1);
        x.write(1, 11, 4);
        x.write(1, 12, 5);
        x.fail(0, 9);
        x.step(0, 100);
        due.is("done", x.moveOf(0, 0), 5);
        due.is("owner", x.span(0, 2), 1);
        due.is("undo", x.undo(), 0);
        int[] want = {2, 0, 500, 0, 1, 500, 2, 0, 0, 1, 9, 0};
        for (int what = 0; what < want.length; what++) {
            due.is("moveOf(0, " + what + ")", x.moveOf(0, what), want[what]);
        }
        due.is("trail(0, 1)", x.trail(0, 1), 12);
        due.is("owner", x.span(0, 2), 0);
        due.is("epoch of the span", x.span(0, 3), 2);
        due.is("epoch", x.look(0), 2);
        due.is("owned(3, 0)", x.owned(3, 0), -1);
        due.is("passed(0, 0)", x.passed(0, 0), -1);
        due.is("changeOf(3, 0)", x.changeOf(3, 0), -1);
        due.is("stored(0, 12)", x.stored(0, 12), 5);
        due.is("stored(1, 12)", x.stored(1, 12), 0);
        due.is("stored(1, 10)", x.stored(1, 10), 1);
        due.is("cache", x.clientOf(1, 1), 0);
    }

    private static void countsStay() {
        SpanMap x = filled();
        x.split(0, 500);
        x.join(0);
        x.move(0, 1);
        x.step(0, 1);
        x.give(0);
        x.read(3, 1);
        for (int i = 0; i < 5; i++) {
            x.undo();
        }
        int[] want = {0, 2, 1, 0, 0, 0, 1, 1, 1, 0, 1, 1, 0, 2, 0, -1};
        for (int what = 0; what < want.length; what++) {
            due.is("count(" + what + ")", x.count(what), want[what]);
        }
        due.is("count(-1)", x.count(-1), -1);
        due.is("askings of 3", x.clientOf(3, 2), 1);
        due.is("look(0)", x.look(0), 1);
        due.is("move 0 again", x.move(0, 1), 0);
        due.is("count(8)", x.count(8), 2);
    }

    private static void scriptsUndone() {
        SpanMap x = filled();
        x.split(0, 500);
        int done = Due.run(x, "read 0 10;");
        due.is("refused", done, 0);
        due.is("named", x.clientOf(0, 5), 2);
        done = Due.run(x, "fetch 0;write 0 10 9;read 0 20;down 2;chunk 9;move 0 1;fail 0 7;up 0;age;");
        due.is("script", done, 7);
        due.is("fault(2)", x.fault(2), 7);
        due.is("type", Due.type(x, "age;"), true);
        due.is("look(7)", x.look(7), 2);
        due.is("undo", x.undo(), 1);
        due.is("cache", x.clientOf(0, 0), 1);
        due.is("stored", x.stored(0, 10), 1);
        due.is("weight", x.weight(0), 4);
        due.is("up", x.look(2), 63);
        due.is("chunk", x.look(6), 4);
        due.is("moves", x.look(3), 0);
        due.is("askings stay", x.clientOf(0, 2), 5);
        due.is("answered 0 stay", x.clientOf(0, 3), 4);
        due.is("answered 3 stay", x.clientOf(0, 4), 1);
        due.is("named stays", x.clientOf(0, 5), 2);
        due.is("count(0)", x.count(0), 1);
        due.is("count(1)", x.count(1), 3);
        due.is("count(8)", x.count(8), 1);
        due.is("fault(2) stays", x.fault(2), 7);
        due.is("the tape stays", x.look(8), 4);
    }

    private static void historyWrittenAnew() {
        SpanMap x = new SpanMap();
        x.split(0, 500);
        x.split(500, 600);
        x.undo();
        due.is("changeOf(3, 0)", x.changeOf(3, 0), -1);
        x.join(0);
        due.is("changeOf(3, 0)", x.changeOf(3, 0), 2);
        due.is("changeOf(3, 1)", x.changeOf(3, 1), 0);
    }

    private static void images() {
        SpanMap x = filled();
        due.is("image(false)", x.image(false), false);
        x.split(0, 500);
        x.move(0, 1);
        x.fail(0, 5);
        x.chunk(2);
        x.down(5);
        x.age();
        due.is("image(true)", x.image(true), true);
        due.is("acts stay", x.look(7), 1);
        int[] counts = new int[15];
        for (int what = 0; what < 15; what++) {
            counts[what] = x.count(what);
        }
        Due.type(x, "xyz");
        for (int again = 0; again < 2; again++) {
            x.up(5);
            x.step(0, 3);
            x.recover(0);
            x.insist(0, 700, 9);
            x.read(4, 1);
            x.join(0);
            x.chunk(16);
            x.age();
            due.is("image(false)", x.image(false), true);
            due.is("acts are gone", x.look(7), 0);
            due.is("undo", x.undo(), -1);
            for (int what = 0; what < 15; what++) {
                due.is("count(" + what + ")", x.count(what), counts[what]);
            }
            due.is("stage", x.moveOf(0, 0), 1);
            due.is("told", x.moveOf(0, 10), 5);
            due.is("chunk", x.look(6), 2);
            due.is("up", x.look(2), 31);
            due.is("weight", x.weight(0), 2);
            due.is("cache", x.clientOf(0, 0), 1);
            due.is("askings", x.clientOf(0, 2), 2);
            due.is("named", x.clientOf(0, 5), 0);
            due.is("askings of 4", x.clientOf(4, 2), 0);
            due.is("stored(0, 700)", x.stored(0, 700), 0);
            due.is("stored(1, 10)", x.stored(1, 10), 0);
            due.is("epoch", x.look(0), 2);
            due.is("the tape stays", x.look(8), 3);
        }
        due.is("script", x.script(), -1);
        x.image(false);
        due.is("fault() stays", x.fault(0), 1);
    }

    private static void imageAgainstUndoing() {
        SpanMap x = new SpanMap();
        x.split(0, 100);
        x.split(100, 200);
        x.image(true);
        x.undo();
        x.undo();
        x.split(0, 700);
        x.join(0);
        due.is("changeOf(3, 0)", x.changeOf(3, 0), 2);
        x.image(false);
        due.is("changeOf(2, 0)", x.changeOf(2, 0), 1);
        due.is("changeOf(3, 0)", x.changeOf(3, 0), 1);
        due.is("changeOf(3, 1)", x.changeOf(3, 1), 100);
        due.is("spans", x.look(1), 3);
        x.age();
        x.image(true);
        due.is("undo behind the image taken", x.undo(), 0);
        x.split(0, 50);
        x.image(false);
        due.is("spans", x.look(1), 3);
    }

    private static void imageOfMoves() {
        SpanMap x = new SpanMap();
        x.split(0, 500);
        x.fetch(2);
        x.image(true);
        x.image(false);
        x.split(0, 100);
        x.move(500, 3);
        x.image(true);
        x.undo();
        x.undo();
        x.move(0, 4);
        x.step(0, 2);
        x.write(2, 600, 1);
        x.image(false);
        int[] want = {1, 500, 1000, 0, 3, 500, 0, 0, 0, 0, 0, 0};
        for (int what = 0; what < want.length; what++) {
            due.is("moveOf(0, " + what + ") of the image", x.moveOf(0, what), want[what]);
        }
        due.is("askings of the image", x.clientOf(2, 2) + x.clientOf(2, 3), 0);
        due.is("span(2, 4)", x.span(2, 4), 0);
        due.is("span(0, 4)", x.span(0, 4), -1);
        x.read(2, 0);
        x.image(false);
        due.is("answered 3 of the image", x.clientOf(2, 4), 0);
        due.is("named of the image", x.clientOf(2, 5), 0);
    }

    private static void trailsUndone() {
        SpanMap x = filled();
        x.move(0, 1);
        x.step(0, 1);
        for (int key = 40; key < 46; key++) {
            x.write(0, key, 1);
        }
        x.step(0, 1);
        due.is("trail(0, 0)", x.trail(0, 0), 44);
        x.undo();
        for (int i = 0; i < 6; i++) {
            due.is("trail(0, " + i + ") again", x.trail(0, i), 40 + i);
        }
        due.is("trail(0, 6)", x.trail(0, 6), -1);
    }

    private static void looks() {
        SpanMap x = filled();
        due.is("look(-1)", x.look(-1), -1);
        due.is("look(11)", x.look(11), -1);
        due.is("look(9)", x.look(9), 2);
        x.split(0, 15);
        x.move(0, 1);
        x.move(15, 1);
        x.step(0, 2);
        x.step(1, 1);
        due.is("look(3)", x.look(3), 2);
        due.is("look(4)", x.look(4), 2);
        due.is("look(9)", x.look(9), 2);
        due.is("look(10)", x.look(10), 1);
        x.down(1);
        due.is("look(5)", x.look(5), 2);
        due.is("look(2)", x.look(2), 61);
        due.is("server(0, 1)", x.server(0, 1), 2);
        due.is("server(0, 5)", x.server(0, 5), -1);
        due.is("server(0, -1)", x.server(0, -1), -1);
        due.is("server(-1, 0)", x.server(-1, 0), -1);
        due.is("stored(6, 0)", x.stored(6, 0), -1);
        due.is("stored(-1, 0)", x.stored(-1, 0), -1);
        due.is("stored(0, -1)", x.stored(0, -1), -1);
        due.is("stored(1, 20)", x.stored(1, 20), 2);
    }
}
