/** Promises 9 to 15, 17, 31, 32, 40, 41, 45: moves, steps, failing and recovering. */
public final class MovesTest {
    private static final Due due = new Due("MovesTest");

    public static void main(String[] args) {
        beginning();
        limits();
        copyingInChunks();
        catchingUp();
        switchingAndCleaning();
        failingInEachStage();
        halfOfOne();
        goingDown();
        trailsAreLost();
        recovering();
        givingUp();
        lasting();
        wrongInputs();
        due.end();
    }

    /** Values at the keys 0 .. n - 1, the client 0 with a cache, the span 0 .. 99 split off. */
    private static SpanMap filled(int n) {
        SpanMap x = new SpanMap();
        x.split(0, 100);
        x.fetch(0);
        for (int key = 0; key < n; key++) {
            x.write(0, key, key + 1);
        }
        return x;
    }

    private static void beginning() {
        SpanMap x = filled(0);
        due.is("move(1, 1)", x.move(1, 1), -1);
        due.is("move(0, -1)", x.move(0, -1), -1);
        due.is("move(0, 6)", x.move(0, 6), -1);
        due.is("move to its owner", x.move(0, 0), -1);
        x.down(2);
        due.is("move to one that is down", x.move(0, 2), -1);
        x.up(2);
        x.down(0);
        due.is("move from one that is down", x.move(0, 2), -1);
        x.up(0);
        due.is("move(100, 2)", x.move(100, 2), 0);
        due.is("move of the same span", x.move(100, 3), -1);
        due.is("move(0, 5)", x.move(0, 5), 1);
        int[] want = {1, 100, 1000, 0, 2, 100, 0, 0, 0, 0, 0, 0, -1};
        for (int what = 0; what < want.length; what++) {
            due.is("moveOf(0, " + what + ")", x.moveOf(0, what), want[what]);
        }
        due.is("moveOf(0, -1)", x.moveOf(0, -1), -1);
        due.is("moveOf(2, 0)", x.moveOf(2, 0), -1);
        due.is("moveOf(-1, 0)", x.moveOf(-1, 0), -1);
        due.is("server(0, 3)", x.server(0, 3), 2);
        due.is("server(2, 4)", x.server(2, 4), 1);
        due.is("server(2, 3)", x.server(2, 3), 0);
        due.is("server(0, 4)", x.server(0, 4), 0);
        due.is("look(3)", x.look(3), 2);
        due.is("look(4)", x.look(4), 2);
        due.is("count(8)", x.count(8), 2);
    }

    private static void limits() {
        SpanMap x = new SpanMap();
        for (int i = 1; i < 6; i++) {
            x.split((i - 1) * 10, i * 10);
        }
        for (int i = 0; i < 4; i++) {
            due.is("move " + i, x.move(i * 10, 1), i);
        }
        due.is("a fifth that goes on", x.move(40, 1), -1);
        x.fail(3, 1);
        x.step(3, 1);
        due.is("a broken one goes on", x.move(40, 1), -1);
        x.recover(3);
        due.is("one ended", x.move(40, 1), 4);
        x.give(4);
        for (int i = 5; i < 12; i++) {
            due.is("move " + i, x.move(40, 1), i);
            x.give(i);
        }
        due.is("a thirteenth", x.move(40, 1), -1);
        due.is("look(3)", x.look(3), 12);
        due.is("look(4)", x.look(4), 3);
    }

    private static void copyingInChunks() {
        SpanMap x = filled(8);
        x.write(0, 100, 5);
        x.move(0, 3);
        due.is("step(0, 1)", x.step(0, 1), 1);
        due.is("cursor", x.moveOf(0, 5), 4);
        due.is("stored(3, 3)", x.stored(3, 3), 4);
        due.is("stored(3, 4)", x.stored(3, 4), 0);
        due.is("step(0, 1)", x.step(0, 1), 1);
        due.is("cursor", x.moveOf(0, 5), 8);
        due.is("step(0, 1)", x.step(0, 1), 2);
        due.is("cursor", x.moveOf(0, 5), 100);
        due.is("not beyond the span", x.stored(3, 100), 0);
        due.is("steps", x.moveOf(0, 9), 3);
        due.is("count(11)", x.count(11), 3);
        due.is("count(13)", x.count(13), 8);
        due.is("spare", x.spare(), 8);
        due.is("sound", x.sound(), 1);
        due.is("server(3, 2)", x.server(3, 2), 8);
        due.is("look(9)", x.look(9), 9);
    }

    private static void catchingUp() {
        SpanMap x = filled(2);
        x.move(0, 1);
        x.write(0, 50, 7);
        x.step(0, 1);
        due.is("copied though in the trail", x.stored(1, 50), 7);
        for (int key = 54; key > 50; key--) {
            x.write(0, key, key);
        }
        x.write(0, 53, 530);
        x.write(0, 500, 1);
        due.is("trail", x.moveOf(0, 6), 5);
        int[] want = {50, 54, 53, 52, 51, -1};
        for (int i = 0; i < want.length; i++) {
            due.is("trail(0, " + i + ")", x.trail(0, i), want[i]);
        }
        due.is("trail(0, -1)", x.trail(0, -1), -1);
        due.is("trail(1, 0)", x.trail(1, 0), -1);
        due.is("trail(-1, 0)", x.trail(-1, 0), -1);
        due.is("step(0, 1)", x.step(0, 1), 2);
        due.is("trail", x.moveOf(0, 6), 1);
        due.is("trail(0, 0)", x.trail(0, 0), 51);
        due.is("stored(1, 53)", x.stored(1, 53), 530);
        due.is("stored(1, 51)", x.stored(1, 51), 0);
        x.write(0, 53, 531);
        due.is("behind the trail again", x.trail(0, 1), 53);
        due.is("step(0, 1)", x.step(0, 1), 3);
        due.is("stored(1, 53)", x.stored(1, 53), 531);
        due.is("count(13)", x.count(13), 3 + 6);
        due.is("frozen", x.look(10), 1);
    }

    private static void switchingAndCleaning() {
        SpanMap x = filled(5);
        x.move(0, 1);
        x.step(0, 3);
        due.is("frozen", x.moveOf(0, 0), 3);
        due.is("step(0, 1)", x.step(0, 1), 4);
        due.is("epoch", x.moveOf(0, 11), 3);
        due.is("cursor", x.moveOf(0, 5), 0);
        due.is("owner", x.span(0, 2), 1);
        due.is("look(10)", x.look(10), 0);
        due.is("stale", x.write(0, 1, 5), 3);
        x.fetch(0);
        due.is("write to the new owner", x.write(0, 1, 77), 0);
        due.is("no trail in 4", x.moveOf(0, 6), 0);
        due.is("stored(1, 1)", x.stored(1, 1), 77);
        due.is("stored(0, 1)", x.stored(0, 1), 2);
        due.is("spare", x.spare(), 5);
        due.is("sound", x.sound(), 1);
        due.is("step(0, 1)", x.step(0, 1), 4);
        due.is("cursor", x.moveOf(0, 5), 4);
        due.is("stored(0, 3)", x.stored(0, 3), 0);
        due.is("stored(0, 4)", x.stored(0, 4), 5);
        due.is("give in 4", x.give(0), false);
        due.is("step(0, 100)", x.step(0, 100), 5);
        due.is("cursor", x.moveOf(0, 5), 100);
        due.is("spare", x.spare(), 0);
        due.is("server(0, 2)", x.server(0, 2), 0);
        due.is("count(9)", x.count(9), 1);
        due.is("count(14)", x.count(14), 5);
        due.is("steps", x.moveOf(0, 9), 6);
        due.is("it goes on no more", x.step(0, 1), -1);
        due.is("fail then", x.fail(0, 1), false);
        due.is("give then", x.give(0), false);
        due.is("recover then", x.recover(0), -1);
        due.is("look(4)", x.look(4), 0);
        due.is("one may begin again", x.move(0, 0), 1);
    }

    private static void failingInEachStage() {
        SpanMap x = filled(6);
        x.move(0, 1);
        due.is("fail(0, 2)", x.fail(0, 2), true);
        due.is("told", x.moveOf(0, 10), 2);
        due.is("step(0, 9)", x.step(0, 9), 1);
        due.is("half of the chunk", x.moveOf(0, 5), 6);
        due.is("stored(1, 5)", x.stored(1, 5), 6);
        due.is("told", x.moveOf(0, 10), 0);
        due.is("broken", x.moveOf(0, 7), 1);
        due.is("cause", x.moveOf(0, 8), 3);
        due.is("steps", x.moveOf(0, 9), 2);
        due.is("count(12)", x.count(12), 1);
        due.is("count(13)", x.count(13), 6);
        due.is("look(5)", x.look(5), 1);
        due.is("step of a broken one", x.step(0, 1), -1);
        due.is("lasts of a broken one", x.lasts(0), -1);
        due.is("give of a broken one", x.give(0), false);
        due.is("fail of a broken one", x.fail(0, 5), true);
        due.is("trail goes on", x.write(0, 9, 9), 0);
        due.is("trail", x.moveOf(0, 6), 1);
        due.is("recover", x.recover(0), 6);
        due.is("server(1, 2)", x.server(1, 2), 0);
        due.is("broken", x.moveOf(0, 7), 0);
        due.is("the latest cause stays", x.moveOf(0, 8), 3);
        due.is("count(10)", x.count(10), 1);

        x = filled(1);
        x.move(0, 1);
        x.step(0, 1);
        x.write(0, 0, 8);
        x.fail(0, 1);
        due.is("fails in 2", x.step(0, 5), 2);
        due.is("trail is empty, 2 stays", x.moveOf(0, 6), 0);
        due.is("stored(1, 0)", x.stored(1, 0), 8);
        due.is("recover", x.recover(0), 6);
        due.is("stored(1, 0)", x.stored(1, 0), 0);

        x.move(0, 1);
        x.step(1, 2);
        x.fail(1, 1);
        due.is("fails in 3", x.step(1, 5), 3);
        due.is("owner", x.span(0, 2), 0);
        due.is("frozen still", x.span(0, 5), 1);
        due.is("write", x.write(0, 0, 3), 4);
        due.is("recover", x.recover(1), 6);
        due.is("frozen no more", x.span(0, 5), 0);
        due.is("write", x.write(0, 0, 3), 0);

        x.move(0, 1);
        x.write(0, 1, 1);
        x.write(0, 2, 1);
        x.fail(2, 4);
        due.is("fails in 4", x.step(2, 9), 4);
        due.is("cursor", x.moveOf(2, 5), 2);
        due.is("stored(0, 2)", x.stored(0, 2), 1);
        due.is("count(14)", x.count(14), 2);
        due.is("recover", x.recover(2), 5);
        due.is("stored(0, 2)", x.stored(0, 2), 0);
        due.is("stored(1, 2)", x.stored(1, 2), 1);
        due.is("owner", x.span(0, 2), 1);
        due.is("count(9)", x.count(9), 1);
        due.is("count(10)", x.count(10), 2);
        due.is("keys that were cleaned by steps alone", x.count(14), 2);
        due.is("count(12)", x.count(12), 3);
    }

    private static void halfOfOne() {
        SpanMap x = filled(3);
        due.is("chunk(1)", x.chunk(1), true);
        x.move(0, 1);
        x.step(0, 1);
        x.fail(0, 1);
        due.is("step", x.step(0, 1), 1);
        due.is("cursor as it was", x.moveOf(0, 5), 1);
        due.is("nothing copied", x.server(1, 2), 1);
        x.recover(0);
        due.is("chunk(16)", x.chunk(16), true);
        due.is("look(6)", x.look(6), 16);
        due.is("chunk(0)", x.chunk(0), false);
        due.is("chunk(17)", x.chunk(17), false);
        due.is("chunk(-4)", x.chunk(-4), false);
        due.is("look(6)", x.look(6), 16);
        x.move(0, 1);
        x.fail(1, 1);
        due.is("step", x.step(1, 1), 1);
        due.is("fewer than half, 1 stays", x.moveOf(1, 5), 3);
    }

    private static void goingDown() {
        SpanMap x = new SpanMap();
        x.split(0, 100);
        x.split(100, 200);
        x.split(200, 300);
        x.move(300, 1);
        x.step(0, 100);         // 300 .. 999 is of 1
        x.move(300, 2);         // 1: from 1 to 2
        x.move(0, 1);           // 2: from 0 to 1
        x.move(100, 3);         // 3: from 0 to 3
        x.move(200, 1);         // 4: from 0 to 1
        x.fail(4, 1);
        x.step(4, 1);
        due.is("down(1)", x.down(1), 2);
        due.is("cause of 1", x.moveOf(1, 8), 1);
        due.is("cause of 2", x.moveOf(2, 8), 2);
        due.is("broken 3", x.moveOf(3, 7), 0);
        due.is("cause of 4 stays", x.moveOf(4, 8), 3);
        due.is("done one is not broken", x.moveOf(0, 7), 0);
        due.is("look(5)", x.look(5), 3);
        due.is("look(2)", x.look(2), 61);
        due.is("server(1, 0)", x.server(1, 0), 0);
        due.is("down again", x.down(1), -1);
        due.is("down(6)", x.down(6), -1);
        due.is("down(-1)", x.down(-1), -1);
        due.is("recover with one down", x.recover(2), -1);
        due.is("recover from one down", x.recover(1), -1);
        due.is("up(1)", x.up(1), true);
        due.is("up again", x.up(1), false);
        due.is("up(6)", x.up(6), false);
        due.is("up(-1)", x.up(-1), false);
        due.is("still broken", x.moveOf(2, 7), 1);
        due.is("recover", x.recover(2), 6);
        due.is("recover", x.recover(1), 6);
        due.is("step of 3", x.step(3, 1), 2);
        due.is("down of all", x.down(0), 1);
        due.is("down(5) breaks none", x.down(5), 0);
    }

    private static void trailsAreLost() {
        SpanMap x = filled(3);
        x.move(0, 1);
        x.write(0, 7, 7);
        due.is("trail", x.moveOf(0, 6), 1);
        due.is("down(1)", x.down(1), 1);
        due.is("trail stays, it is of TO", x.moveOf(0, 6), 1);
        due.is("down(0) breaks it not again", x.down(0), 0);
        due.is("cause stays", x.moveOf(0, 8), 2);
        due.is("trail is lost", x.moveOf(0, 6), 0);
        x.up(0);
        x.write(0, 8, 8);
        due.is("trail, broken as it is", x.trail(0, 0), 8);
    }

    private static void recovering() {
        SpanMap x = filled(3);
        due.is("recover of none such", x.recover(0), -1);
        x.move(0, 1);
        due.is("recover of one not broken", x.recover(0), -1);
        x.step(0, 3);
        x.down(0);
        due.is("stage", x.moveOf(0, 0), 4);
        due.is("cause", x.moveOf(0, 8), 1);
        x.up(0);
        due.is("recover", x.recover(0), 5);
        due.is("spare", x.spare(), 0);
        due.is("recover again", x.recover(0), -1);
        due.is("recover(-1)", x.recover(-1), -1);
        due.is("values elsewhere stay", x.server(1, 2), 3);
    }

    private static void givingUp() {
        SpanMap x = filled(3);
        due.is("give of none such", x.give(0), false);
        due.is("give(-1)", x.give(-1), false);
        x.move(0, 1);
        x.step(0, 2);
        due.is("frozen", x.span(0, 5), 1);
        due.is("give", x.give(0), true);
        due.is("stage", x.moveOf(0, 0), 6);
        due.is("server(1, 2)", x.server(1, 2), 0);
        due.is("frozen", x.span(0, 5), 0);
        due.is("owner", x.span(0, 2), 0);
        due.is("epoch", x.look(0), 2);
        due.is("count(10)", x.count(10), 1);
        due.is("give again", x.give(0), false);
        due.is("cause", x.moveOf(0, 8), 0);
    }

    private static void lasting() {
        for (int chunk = 1; chunk <= 16; chunk += 3) {
            for (int values = 0; values < 20; values += 4) {
                SpanMap x = filled(values);
                x.chunk(chunk);
                x.move(0, 1);
                for (int key = 30; key < 30 + values / 2; key++) {
                    x.write(0, key, 1);
                }
                x.fail(0, 99);
                for (int n = x.lasts(0); n > 0; n--) {
                    due.is("lasts, chunk " + chunk + ", values " + values, x.lasts(0), n);
                    due.is("stage behind", x.step(0, 1) == 5, n == 1);
                }
                due.is("lasts of one that is done", x.lasts(0), -1);
            }
        }
        SpanMap x = filled(4);
        x.move(0, 1);
        due.is("a whole chunk, and one more step to see it", x.lasts(0), 2 + 1 + 1 + 2);
        due.is("lasts(1)", x.lasts(1), -1);
        due.is("lasts(-1)", x.lasts(-1), -1);
        x.down(1);
        due.is("lasts, broken", x.lasts(0), -1);
    }

    private static void wrongInputs() {
        SpanMap x = filled(30);
        x.move(0, 1);
        due.is("step(0, 0)", x.step(0, 0), -1);
        due.is("step(0, 101)", x.step(0, 101), -1);
        due.is("step(0, -1)", x.step(0, -1), -1);
        due.is("step(1, 1)", x.step(1, 1), -1);
        due.is("step(-1, 1)", x.step(-1, 1), -1);
        due.is("fail(0, -1)", x.fail(0, -1), false);
        due.is("fail(0, 100)", x.fail(0, 100), false);
        due.is("fail(0, 99)", x.fail(0, 99), true);
        due.is("fail(0, 0)", x.fail(0, 0), true);
        due.is("told", x.moveOf(0, 10), 0);
        due.is("fail(1, 1)", x.fail(1, 1), false);
        due.is("fail(-1, 1)", x.fail(-1, 1), false);
        due.is("no step was taken", x.count(11), 0);
        due.is("step(0, 100)", x.step(0, 100), 5);
    }
}
