/** Terms, part 2 (steps, failing, going down, recovered, given up): each sentence that names a boundary. */
public final class EdgesOfStepsTest {
    private static final Due due = new Due("EdgesOfStepsTest");
    private static final Edges edges = new Edges(due);
    private static final int[] CHUNKS = {1, 2, 3, 4, 5, 15, 16};

    public static void main(String[] args) {
        copyOfAWholeChunk();
        copyOfFewer();
        copyWithinTheSpan();
        copyFromTheCursorOn();
        catchUpOfNone();
        catchUpByChunks();
        catchUpTakesTheLatest();
        frozenFromThenOn();
        switched();
        cleanOfAWholeChunk();
        cleanOfFewer();
        cleanLeavesTheOthers();
        failsInCopy();
        failsInCopyWithFewer();
        failsInCatchUp();
        failsInCatchUpWithNoneLeft();
        failsInFrozen();
        failsInClean();
        failsInCleanWithFewer();
        countsDown();
        countsDownTo99();
        toldAnew();
        downInEachStage();
        downOfAnother();
        downBreaksNotAgain();
        downLosesTrails();
        recoveredInEachStage();
        recoveredWithBothUpAlone();
        recoveredIfBrokenAlone();
        recoveredLosesItsSpanAlone();
        givenUpInEachStage();
        givenUpIfNotBroken();
        due.end();
    }

    private static void moveIs(SpanMap x, int stage, int cursor, int trail, int broken, int cause) {
        due.is("moveOf(0, 0), its stage", x.moveOf(0, 0), stage);
        due.is("moveOf(0, 5), its cursor", x.moveOf(0, 5), cursor);
        due.is("moveOf(0, 6), its trail", x.moveOf(0, 6), trail);
        due.is("moveOf(0, 7), broken", x.moveOf(0, 7), broken);
        due.is("moveOf(0, 8), its cause", x.moveOf(0, 8), cause);
    }

    /** The span 100 .. 199 with n values from 100 on, values at 99 and 200, and a move of it from 0 to 1. */
    private static SpanMap copying(int chunk, int n) {
        SpanMap x = new SpanMap();
        x.split(0, 100);
        x.split(100, 200);
        x.fetch(0);
        x.write(0, 99, 1);
        x.write(0, 200, 1);
        for (int key = 100; key < 100 + n; key++) {
            x.write(0, key, key);
        }
        x.chunk(chunk);
        x.move(100, 1);
        return x;
    }

    /** As copying(), in stage 2, with the first n of its keys written anew. */
    private static SpanMap catchingUp(int chunk, int n) {
        SpanMap x = copying(chunk, n);
        x.step(0, n / chunk + 1);
        due.is("it is in stage 2", x.moveOf(0, 0), 2);
        for (int key = 100; key < 100 + n; key++) {
            x.write(0, key, key + 1000);
        }
        return x;
    }

    /** As copying(), in stage 4, none cleaned. */
    private static SpanMap cleaning(int chunk, int n) {
        SpanMap x = copying(chunk, n);
        x.step(0, n / chunk + 3);
        due.is("it is in stage 4", x.moveOf(0, 0), 4);
        return x;
    }

    /** Terms 2, STEP in 1: "the next CHUNK KEYS .. of which FROM has a value": as many as a CHUNK leave it in 1. */
    private static void copyOfAWholeChunk() {
        for (int chunk : CHUNKS) {
            SpanMap x = copying(chunk, chunk);
            due.is("step(0, 1), as many", x.step(0, 1), 1);
            moveIs(x, 1, 100 + chunk, 0, 0, 0);
            due.is("server(1, 2)", x.server(1, 2), chunk);
            due.is("count(13)", x.count(13), chunk);
            due.is("step(0, 1), none is left", x.step(0, 1), 2);
            moveIs(x, 2, 200, 0, 0, 0);
            due.is("count(13)", x.count(13), chunk);
            x = copying(chunk, chunk + 1);
            due.is("step(0, 1), one more", x.step(0, 1), 1);
            moveIs(x, 1, 100 + chunk, 0, 0, 0);
            due.is("stored(1, the last)", x.stored(1, 99 + chunk), 99 + chunk);
            due.is("stored(1, the next)", x.stored(1, 100 + chunk), 0);
        }
    }

    /** Terms 2, STEP in 1: "were there fewer: STAGE is 2, CURSOR the SPAN's end". */
    private static void copyOfFewer() {
        for (int chunk : CHUNKS) {
            SpanMap x = copying(chunk, chunk - 1);
            due.is("step(0, 1), one fewer", x.step(0, 1), 2);
            moveIs(x, 2, 200, 0, 0, 0);
            due.is("server(1, 2)", x.server(1, 2), chunk - 1);
            due.is("count(13)", x.count(13), chunk - 1);
            x = copying(chunk, 0);
            due.is("step(0, 1), none", x.step(0, 1), 2);
            moveIs(x, 2, 200, 0, 0, 0);
            due.is("server(1, 2)", x.server(1, 2), 0);
        }
    }

    /** Terms 2, STEP in 1: "within the SPAN": its LOW and its last KEY, not the KEYS beside it. */
    private static void copyWithinTheSpan() {
        SpanMap x = copying(2, 1);
        x.write(0, 199, 7);
        due.is("step(0, 1)", x.step(0, 1), 1);
        due.is("cursor behind the last key", x.moveOf(0, 5), 200);
        due.is("stored(1, 100)", x.stored(1, 100), 100);
        due.is("stored(1, 199)", x.stored(1, 199), 7);
        due.is("step(0, 1)", x.step(0, 1), 2);
        due.is("cursor", x.moveOf(0, 5), 200);
        due.is("stored(1, 99)", x.stored(1, 99), 0);
        due.is("stored(1, 200)", x.stored(1, 200), 0);
        x = new SpanMap();
        x.fetch(0);
        x.write(0, 0, 1);
        x.write(0, 999, 2);
        x.chunk(2);
        x.move(0, 1);
        due.is("step(0, 1) of all keys", x.step(0, 1), 1);
        due.is("cursor", x.moveOf(0, 5), 1000);
        due.is("stored(1, 999)", x.stored(1, 999), 2);
        due.is("step(0, 1)", x.step(0, 1), 2);
    }

    /** Terms 2, STEP in 1: "from CURSOR on": what is written ahead of it comes by the TRAIL alone. */
    private static void copyFromTheCursorOn() {
        SpanMap x = copying(2, 2);
        x.write(0, 150, 5);
        x.step(0, 1);
        x.write(0, 101, 77);
        x.write(0, 102, 78);
        due.is("trail", x.moveOf(0, 6), 3);
        due.is("step(0, 1)", x.step(0, 1), 1);
        due.is("stored(1, 101), ahead of the cursor", x.stored(1, 101), 101);
        due.is("stored(1, 102), at the cursor", x.stored(1, 102), 78);
        due.is("stored(1, 150)", x.stored(1, 150), 5);
        due.is("cursor", x.moveOf(0, 5), 151);
        due.is("trail stays", x.moveOf(0, 6), 3);
        due.is("step(0, 1)", x.step(0, 1), 2);
        due.is("stored(1, 101)", x.stored(1, 101), 101);
        due.is("step(0, 2)", x.step(0, 2), 3);
        due.is("stored(1, 101), caught up", x.stored(1, 101), 77);
    }

    /** Terms 2, STEP in 2: "is none left then: STAGE is 3", also if there was none. */
    private static void catchUpOfNone() {
        for (int chunk : CHUNKS) {
            SpanMap x = catchingUp(chunk, 0);
            due.is("step(0, 1)", x.step(0, 1), 3);
            moveIs(x, 3, 200, 0, 0, 0);
            due.is("count(13)", x.count(13), 0);
        }
    }

    /** Terms 2, STEP in 2: "the first CHUNK KEYS of TRAIL go .. is none left then: STAGE is 3". */
    private static void catchUpByChunks() {
        for (int chunk : CHUNKS) {
            SpanMap x = catchingUp(chunk, chunk);
            due.is("step(0, 1), as many", x.step(0, 1), 3);
            due.is("stored(1, the last)", x.stored(1, 99 + chunk), 1099 + chunk);
            due.is("trail", x.moveOf(0, 6), 0);
            x = catchingUp(chunk, chunk + 1);
            due.is("step(0, 1), one is left", x.step(0, 1), 2);
            moveIs(x, 2, 200, 1, 0, 0);
            due.is("trail(0, 0)", x.trail(0, 0), 100 + chunk);
            due.is("trail(0, 1)", x.trail(0, 1), -1);
            due.is("stored(1, the next) is the old one", x.stored(1, 100 + chunk), 100 + chunk);
            due.is("count(13)", x.count(13), chunk + 1 + chunk);
            due.is("step(0, 1)", x.step(0, 1), 3);
            due.is("count(13)", x.count(13), chunk + 1 + chunk + 1);
        }
    }

    /** Terms 2, STEP in 2: "TO has of each what FROM has" as it goes, not as it was written. */
    private static void catchUpTakesTheLatest() {
        SpanMap x = catchingUp(1, 2);
        x.write(0, 100, 5);
        x.write(0, 101, 6);
        x.step(0, 1);
        due.is("stored(1, 100)", x.stored(1, 100), 5);
        due.is("stored(1, 101) is the old one", x.stored(1, 101), 101);
        x.write(0, 101, 8);
        x.step(0, 1);
        due.is("stored(1, 101)", x.stored(1, 101), 8);
    }

    /** Terms 2, STEP in 2: "(the SPAN is FROZEN from then on)". */
    private static void frozenFromThenOn() {
        SpanMap x = catchingUp(4, 0);
        due.is("look(10) in 2", x.look(10), 0);
        due.is("write in 2", x.write(0, 150, 1), 0);
        x.step(0, 1);
        due.is("look(10) in 3", x.look(10), 1);
        due.is("span(0, 5)", x.span(0, 5), 0);
        due.is("span(1, 5)", x.span(1, 5), 1);
        due.is("write in 3", x.write(0, 150, 2), 4);
        x.step(0, 1);
        due.is("look(10) in 4", x.look(10), 0);
        x.fetch(0);
        due.is("write in 4", x.write(0, 150, 3), 0);
    }

    /** Terms 2, STEP in 3: "it is SWITCHED (a CHANGE): TO OWNS the SPAN, it is not FROZEN; STAGE is 4, CURSOR the SPAN's LOW". */
    private static void switched() {
        SpanMap x = copying(4, 2);
        x.step(0, 2);
        due.is("look(0) in 3", x.look(0), 3);
        due.is("moveOf(0, 11) in 3", x.moveOf(0, 11), 0);
        due.is("step(0, 1)", x.step(0, 1), 4);
        moveIs(x, 4, 100, 0, 0, 0);
        due.is("moveOf(0, 11)", x.moveOf(0, 11), 4);
        due.is("look(0)", x.look(0), 4);
        int[] owners = {0, 1, 0};
        int[] epochs = {2, 4, 3};
        for (int i = 0; i < 3; i++) {
            due.is("span(" + i + ", 2)", x.span(i, 2), owners[i]);
            due.is("span(" + i + ", 3)", x.span(i, 3), epochs[i]);
        }
        due.is("span(1, 4): it goes on", x.span(1, 4), 0);
        due.is("changeOf(4, 0)", x.changeOf(4, 0), 3);
        due.is("values of FROM", x.server(0, 2), 4);
        due.is("sound()", x.sound(), 1);
        due.is("spare()", x.spare(), 2);
    }

    /** Terms 2, STEP in 4: "the next CHUNK KEYS .. go from its STORE": as many as a CHUNK leave it in 4. */
    private static void cleanOfAWholeChunk() {
        for (int chunk : CHUNKS) {
            SpanMap x = cleaning(chunk, chunk);
            due.is("step(0, 1), as many", x.step(0, 1), 4);
            moveIs(x, 4, 100 + chunk, 0, 0, 0);
            due.is("server(0, 2)", x.server(0, 2), 2);
            due.is("count(14)", x.count(14), chunk);
            due.is("step(0, 1), none is left", x.step(0, 1), 5);
            moveIs(x, 5, 200, 0, 0, 0);
            due.is("count(14)", x.count(14), chunk);
            x = cleaning(chunk, chunk + 1);
            due.is("step(0, 1), one more", x.step(0, 1), 4);
            due.is("stored(0, the last)", x.stored(0, 99 + chunk), 0);
            due.is("stored(0, the next)", x.stored(0, 100 + chunk), 100 + chunk);
            due.is("spare()", x.spare(), 1);
            due.is("step(0, 1)", x.step(0, 1), chunk == 1 ? 4 : 5);
        }
    }

    /** Terms 2, STEP in 4: "were there fewer: STAGE is 5, CURSOR the SPAN's end". */
    private static void cleanOfFewer() {
        for (int chunk : CHUNKS) {
            SpanMap x = cleaning(chunk, chunk - 1);
            due.is("step(0, 1), one fewer", x.step(0, 1), 5);
            moveIs(x, 5, 200, 0, 0, 0);
            due.is("server(0, 2)", x.server(0, 2), 2);
            due.is("count(9)", x.count(9), 1);
            due.is("count(14)", x.count(14), chunk - 1);
            x = cleaning(chunk, 0);
            due.is("step(0, 1), none", x.step(0, 1), 5);
            moveIs(x, 5, 200, 0, 0, 0);
        }
    }

    /** Terms 2, STEP in 4: "of which FROM has a value": what TO has, and what is beside the SPAN, stays. */
    private static void cleanLeavesTheOthers() {
        SpanMap x = cleaning(16, 3);
        x.fetch(0);
        x.write(0, 199, 9);
        due.is("step(0, 1)", x.step(0, 1), 5);
        due.is("server(1, 2)", x.server(1, 2), 4);
        due.is("stored(0, 99)", x.stored(0, 99), 1);
        due.is("stored(0, 200)", x.stored(0, 200), 1);
        due.is("stored(1, 199)", x.stored(1, 199), 9);
        due.is("count(14)", x.count(14), 3);
        due.is("spare()", x.spare(), 0);
    }

    private static void failsNext(SpanMap x, int stage) {
        int steps = x.count(11);
        due.is("fail(0, 1)", x.fail(0, 1), true);
        due.is("step(0, 100) that fails", x.step(0, 100), stage);
        due.is("one step", x.count(11) - steps, 1);
        due.is("count(12)", x.count(12), 1);
        due.is("moveOf(0, 10)", x.moveOf(0, 10), 0);
        due.is("look(5)", x.look(5), 1);
        due.is("step(0, 1) of a broken one", x.step(0, 1), -1);
    }

    /** Terms 2: "in 1, 2, 4 half of the CHUNK (downwards) is done first as told (CURSOR behind the last of these, or as it was". */
    private static void failsInCopy() {
        for (int chunk : CHUNKS) {
            SpanMap x = copying(chunk, 20);
            failsNext(x, 1);
            moveIs(x, 1, 100 + chunk / 2, 0, 1, 3);
            due.is("server(1, 2)", x.server(1, 2), chunk / 2);
            due.is("count(13)", x.count(13), chunk / 2);
        }
        SpanMap x = copying(1, 20);
        x.step(0, 3);
        failsNext(x, 1);
        moveIs(x, 1, 103, 0, 1, 3);
    }

    /** Terms 2: "STAGE stays", if there are fewer than half of the CHUNK, or none. */
    private static void failsInCopyWithFewer() {
        SpanMap x = copying(16, 7);
        failsNext(x, 1);
        moveIs(x, 1, 107, 0, 1, 3);
        due.is("server(1, 2)", x.server(1, 2), 7);
        x = copying(16, 8);
        failsNext(x, 1);
        moveIs(x, 1, 108, 0, 1, 3);
        x = copying(16, 0);
        failsNext(x, 1);
        moveIs(x, 1, 100, 0, 1, 3);
        due.is("server(1, 2)", x.server(1, 2), 0);
    }

    /** Terms 2: a STEP that FAILS in 2: half of the CHUNK of the TRAIL goes. */
    private static void failsInCatchUp() {
        for (int chunk : CHUNKS) {
            SpanMap x = catchingUp(chunk, 20);
            int copied = x.count(13);
            failsNext(x, 2);
            moveIs(x, 2, 200, 20 - chunk / 2, 1, 3);
            due.is("trail(0, 0)", x.trail(0, 0), 100 + chunk / 2);
            due.is("count(13)", x.count(13) - copied, chunk / 2);
            due.is("stored(1, the next) is the old one", x.stored(1, 100 + chunk / 2), 100 + chunk / 2);
            if (chunk > 1) {
                due.is("stored(1, the last)", x.stored(1, 99 + chunk / 2), 1099 + chunk / 2);
            }
        }
    }

    /** Terms 2: a STEP that FAILS in 2: "STAGE stays", though none is left in the TRAIL. */
    private static void failsInCatchUpWithNoneLeft() {
        SpanMap x = catchingUp(16, 8);
        failsNext(x, 2);
        moveIs(x, 2, 200, 0, 1, 3);
        due.is("stored(1, 107)", x.stored(1, 107), 1107);
        x = catchingUp(16, 9);
        failsNext(x, 2);
        moveIs(x, 2, 200, 1, 1, 3);
        x = catchingUp(16, 0);
        failsNext(x, 2);
        moveIs(x, 2, 200, 0, 1, 3);
        due.is("span(1, 5)", x.span(1, 5), 0);
    }

    /** Terms 2: a STEP that FAILS "in 3 nothing: it is BROKEN (CAUSE 3)". */
    private static void failsInFrozen() {
        for (int chunk : CHUNKS) {
            SpanMap x = catchingUp(chunk, 0);
            x.step(0, 1);
            failsNext(x, 3);
            moveIs(x, 3, 200, 0, 1, 3);
            due.is("look(0)", x.look(0), 3);
            due.is("span(1, 2)", x.span(1, 2), 0);
            due.is("span(1, 5)", x.span(1, 5), 1);
            due.is("moveOf(0, 11)", x.moveOf(0, 11), 0);
            due.is("write", x.write(0, 150, 1), 4);
        }
    }

    /** Terms 2: a STEP that FAILS in 4: half of the CHUNK goes from FROM. */
    private static void failsInClean() {
        for (int chunk : CHUNKS) {
            SpanMap x = cleaning(chunk, 20);
            failsNext(x, 4);
            moveIs(x, 4, 100 + chunk / 2, 0, 1, 3);
            due.is("server(0, 2)", x.server(0, 2), 22 - chunk / 2);
            due.is("server(1, 2)", x.server(1, 2), 20);
            due.is("count(14)", x.count(14), chunk / 2);
            due.is("span(1, 2)", x.span(1, 2), 1);
        }
    }

    /** Terms 2: a STEP that FAILS in 4: "STAGE stays", if there are fewer than half of the CHUNK, or none. */
    private static void failsInCleanWithFewer() {
        SpanMap x = cleaning(16, 7);
        failsNext(x, 4);
        moveIs(x, 4, 107, 0, 1, 3);
        due.is("server(0, 2)", x.server(0, 2), 2);
        x = cleaning(16, 0);
        failsNext(x, 4);
        moveIs(x, 4, 100, 0, 1, 3);
        due.is("recover(0)", x.recover(0), 5);
    }

    /** Terms 2: "TOLD to fail in so many STEPS (1: the next one; each STEP counts down, the failing one, too)". */
    private static void countsDown() {
        int[] stages = {1, 1, 2, 3, 4, 4, 4, 5};
        for (int n = 1; n <= 7; n++) {
            SpanMap x = copying(4, 8);
            x.fail(0, n);
            for (int step = 1; step < n; step++) {
                due.is("step " + step + " of " + n, x.step(0, 1), stages[step - 1]);
                due.is("moveOf(0, 10)", x.moveOf(0, 10), n - step);
                due.is("moveOf(0, 7)", x.moveOf(0, 7), 0);
            }
            x.step(0, 1);
            due.is("moveOf(0, 10)", x.moveOf(0, 10), 0);
            due.is("moveOf(0, 7)", x.moveOf(0, 7), 1);
            due.is("moveOf(0, 9)", x.moveOf(0, 9), n);
            due.is("count(11)", x.count(11), n);
        }
        SpanMap x = copying(4, 8);
        x.fail(0, 9);
        due.is("all steps in one call, one fewer than told", x.step(0, 100), 5);
        due.is("moveOf(0, 9)", x.moveOf(0, 9), 8);
        due.is("moveOf(0, 10)", x.moveOf(0, 10), 1);
    }

    /** Terms 2 and promise 11: 99 at most: 98 STEPS are taken, and the 99th FAILS; promise 10: 100 STEPS at most. */
    private static void countsDownTo99() {
        SpanMap x = copying(1, 50);
        due.is("lasts(0)", x.lasts(0), 51 + 1 + 1 + 51);
        due.is("fail(0, 99)", x.fail(0, 99), true);
        due.is("step(0, 98)", x.step(0, 98), 4);
        due.is("moveOf(0, 10)", x.moveOf(0, 10), 1);
        due.is("broken", x.moveOf(0, 7), 0);
        due.is("step(0, 100)", x.step(0, 100), 4);
        due.is("moveOf(0, 9)", x.moveOf(0, 9), 99);
        due.is("broken", x.moveOf(0, 7), 1);
        x = copying(1, 50);
        due.is("step(0, 100)", x.step(0, 100), 4);
        due.is("moveOf(0, 9)", x.moveOf(0, 9), 100);
        due.is("lasts(0)", x.lasts(0), 4);
    }

    /** Terms 2 and promise 11: TOLD anew, and "0: not any more". */
    private static void toldAnew() {
        SpanMap x = copying(4, 8);
        x.fail(0, 1);
        x.fail(0, 2);
        due.is("step(0, 1)", x.step(0, 1), 1);
        due.is("broken", x.moveOf(0, 7), 0);
        due.is("fail(0, 0)", x.fail(0, 0), true);
        due.is("moveOf(0, 10)", x.moveOf(0, 10), 0);
        due.is("step(0, 100)", x.step(0, 100), 5);
        due.is("count(12)", x.count(12), 0);
        x = copying(4, 8);
        x.down(1);
        due.is("a broken one may be told", x.fail(0, 5), true);
        due.is("moveOf(0, 10)", x.moveOf(0, 10), 5);
        due.is("and told not to", x.fail(0, 0), true);
    }

    /** Terms 2: "A SERVER that goes DOWN breaks at once all MOVES that go on from it (CAUSE 1) or to it (CAUSE 2)", in each STAGE. */
    private static void downInEachStage() {
        for (int stage = 1; stage <= 4; stage++) {
            for (int server = 0; server < 2; server++) {
                SpanMap x = Edges.made(Edges.moving(stage, false));
                int cursor = x.moveOf(0, 5);
                due.is("down(" + server + ") in " + stage, x.down(server), 1);
                moveIs(x, stage, cursor, 0, 1, server + 1);
                due.is("look(5)", x.look(5), 1);
                due.is("look(4): it goes on", x.look(4), 1);
                due.is("span(1, 5)", x.span(1, 5), stage == 3 ? 1 : 0);
                due.is("count(12): no step failed", x.count(12), 0);
                due.is("lasts(0)", x.lasts(0), -1);
                due.is("up(" + server + ")", x.up(server), true);
                due.is("broken still", x.moveOf(0, 7), 1);
                due.is("step(0, 1)", x.step(0, 1), -1);
            }
        }
    }

    /** Terms 2: only MOVES from it or to it, and only those that go on. */
    private static void downOfAnother() {
        for (int stage = 1; stage <= 4; stage++) {
            SpanMap x = Edges.made(Edges.moving(stage, false));
            for (int server = 2; server < 6; server++) {
                due.is("down(" + server + ")", x.down(server), 0);
            }
            due.is("broken", x.moveOf(0, 7), 0);
            due.is("step(0, 100)", x.step(0, 100), 5);
            due.is("down(1), it is done", x.down(1), 0);
            due.is("down(0), it is done", x.down(0), 0);
            moveIs(x, 5, 200, 0, 0, 0);
        }
        SpanMap x = Edges.made(Edges.moving(1, false));
        x.give(0);
        due.is("down(1), it is undone", x.down(1), 0);
        due.is("broken", x.moveOf(0, 7), 0);
        x = Edges.made(y -> {
            for (int i = 1; i < 4; i++) {
                y.split((i - 1) * 10, i * 10);
            }
            for (int i = 0; i < 4; i++) {
                y.move(i * 10, 1);
            }
        });
        due.is("down(1) breaks four", x.down(1), 4);
        due.is("look(5)", x.look(5), 4);
        due.is("down(0) breaks none", x.down(0), 0);
    }

    /** Terms 2: "and are not BROKEN yet": these are not counted, and their CAUSE stays. */
    private static void downBreaksNotAgain() {
        for (int stage = 1; stage <= 4; stage++) {
            SpanMap x = Edges.made(Edges.moving(stage, true));
            due.is("down(0) in " + stage, x.down(0), 0);
            due.is("down(1) in " + stage, x.down(1), 0);
            due.is("cause", x.moveOf(0, 8), 3);
        }
        SpanMap x = Edges.made(Edges.moving(1, false));
        due.is("down(0)", x.down(0), 1);
        due.is("down(1)", x.down(1), 0);
        due.is("cause", x.moveOf(0, 8), 1);
        x.up(0);
        due.is("down(0) again", x.down(0), 0);
        x = Edges.made(Edges.moving(1, false));
        due.is("down(1)", x.down(1), 1);
        due.is("down(0)", x.down(0), 0);
        due.is("cause", x.moveOf(0, 8), 2);
    }

    /** Terms 2: "TRAILS of all that go on from it are lost": BROKEN ones, too; not of those to it, nor of those that have ended. */
    private static void downLosesTrails() {
        for (int broken = 0; broken < 2; broken++) {
            SpanMap x = Edges.made(Edges.moving(2, broken == 1));
            x.write(0, 150, 1);
            x.write(0, 151, 1);
            x.down(1);
            due.is("TO is down: trail", x.moveOf(0, 6), 2);
            due.is("trail(0, 1)", x.trail(0, 1), 151);
            x.up(1);
            x.down(0);
            due.is("FROM is down: trail", x.moveOf(0, 6), 0);
            due.is("trail(0, 0)", x.trail(0, 0), -1);
            x.up(0);
            due.is("write", x.write(0, 152, 1), 0);
            due.is("trail(0, 0)", x.trail(0, 0), 152);
        }
        SpanMap x = new SpanMap();
        x.split(0, 500);
        x.move(500, 1);
        x.step(0, 100);
        x.fetch(0);
        x.move(0, 2);
        x.move(500, 2);
        x.write(0, 7, 1);
        x.write(0, 507, 1);
        due.is("down(1)", x.down(1), 1);
        due.is("trail of the one from 0", x.moveOf(1, 6), 1);
        due.is("trail of the one from 1", x.moveOf(2, 6), 0);
    }

    /** Terms 2: "RECOVERED .. in STAGES 1 to 3 TO loses all values of KEYS of the SPAN, it is not FROZEN; UNDONE. In 4 FROM loses all of them: DONE. It is not BROKEN then." */
    private static void recoveredInEachStage() {
        for (int stage = 1; stage <= 4; stage++) {
            for (int cause = 1; cause <= 3; cause++) {
                SpanMap x = Edges.made(Edges.moving(stage, cause == 3));
                if (cause < 3) {
                    x.down(cause - 1);
                    x.up(cause - 1);
                }
                int epoch = x.look(0);
                due.is("recover(0) in " + stage, x.recover(0), stage == 4 ? 5 : 6);
                due.is("stage", x.moveOf(0, 0), stage == 4 ? 5 : 6);
                due.is("broken", x.moveOf(0, 7), 0);
                due.is("look(5)", x.look(5), 0);
                due.is("look(4)", x.look(4), 0);
                due.is("look(10)", x.look(10), 0);
                due.is("span(1, 2)", x.span(1, 2), stage == 4 ? 1 : 0);
                due.is("span(1, 4)", x.span(1, 4), -1);
                due.is("look(0)", x.look(0), epoch);
                due.is("values of 0", x.server(0, 2), stage == 4 ? 2 : 7);
                due.is("values of 1", x.server(1, 2), stage == 4 ? 5 : 0);
                due.is("count(9)", x.count(9), stage == 4 ? 1 : 0);
                due.is("count(10)", x.count(10), stage == 4 ? 0 : 1);
                due.is("spare()", x.spare(), 0);
                due.is("sound()", x.sound(), 1);
                x.fetch(0);
                due.is("write", x.write(0, 150, 1), 0);
                due.is("recover(0) again", x.recover(0), -1);
            }
        }
    }

    /** Terms 2: RECOVERED "(BROKEN, FROM and TO UP)": not while one of them is DOWN. */
    private static void recoveredWithBothUpAlone() {
        for (int stage = 1; stage <= 4; stage++) {
            for (int server = 0; server < 2; server++) {
                int gone = server;
                Edges.Run down = Edges.then(Edges.moving(stage, false), x -> x.down(gone));
                edges.refused(down, -1, "recover(0) in " + stage + ", down " + gone, x -> x.recover(0));
                Edges.Run broken = Edges.then(Edges.moving(stage, true), x -> x.down(gone));
                edges.refused(broken, -1, "recover(0) in " + stage + ", broken, down " + gone, x -> x.recover(0));
                Edges.Run other = Edges.then(Edges.moving(stage, true), x -> x.down(gone + 2));
                due.is("recover(0), another is down", Edges.made(other).recover(0), stage == 4 ? 5 : 6);
            }
        }
    }

    /** Terms 2: RECOVERED: "BROKEN" it has to be. */
    private static void recoveredIfBrokenAlone() {
        for (int stage = 1; stage <= 4; stage++) {
            edges.refused(Edges.moving(stage, false), -1, "recover(0) in " + stage, x -> x.recover(0));
        }
        Edges.Run done = Edges.then(Edges.moving(4, false), x -> x.step(0, 100));
        edges.refused(done, -1, "recover(0) in 5", x -> x.recover(0));
        Edges.Run undone = Edges.then(Edges.moving(3, false), x -> x.give(0));
        edges.refused(undone, -1, "recover(0) in 6", x -> x.recover(0));
    }

    /** Terms 2: RECOVERED: "all values of KEYS of the SPAN" go, and no others of that SERVER. */
    private static void recoveredLosesItsSpanAlone() {
        SpanMap x = new SpanMap();
        x.split(0, 100);
        x.split(100, 200);
        x.fetch(0);
        x.write(0, 99, 1);
        x.write(0, 100, 1);
        x.write(0, 199, 1);
        x.write(0, 200, 1);
        for (int low = 0; low <= 200; low += 200) {
            int move = x.move(low, 1);
            x.step(move, 100);
        }
        x.move(100, 1);
        x.step(2, 2);
        due.is("values of 1", x.server(1, 2), 4);
        x.fail(2, 1);
        x.step(2, 1);
        x.recover(2);
        due.is("values of 1, undone", x.server(1, 2), 2);
        due.is("stored(1, 99)", x.stored(1, 99), 1);
        due.is("stored(1, 200)", x.stored(1, 200), 1);
        due.is("stored(0, 100)", x.stored(0, 100), 1);
        x = new SpanMap();
        x.split(0, 100);
        x.split(100, 200);
        x.fetch(0);
        for (int key = 98; key <= 201; key += 103) {
            x.write(0, key, 1);
        }
        x.write(0, 100, 1);
        x.write(0, 199, 1);
        x.move(100, 1);
        x.step(0, 3);
        x.down(1);
        x.up(1);
        x.recover(0);
        due.is("values of 0, done", x.server(0, 2), 2);
        due.is("stored(0, 98)", x.stored(0, 98), 1);
        due.is("stored(0, 201)", x.stored(0, 201), 1);
        due.is("count(14): no step cleaned", x.count(14), 0);
    }

    /** Terms 2: "GIVEN UP (in 1 to 3, not BROKEN, FROM and TO UP): likewise UNDONE." */
    private static void givenUpInEachStage() {
        for (int stage = 1; stage <= 3; stage++) {
            SpanMap x = Edges.made(Edges.moving(stage, false));
            due.is("give(0) in " + stage, x.give(0), true);
            due.is("stage", x.moveOf(0, 0), 6);
            due.is("cause", x.moveOf(0, 8), 0);
            due.is("values of 1", x.server(1, 2), 0);
            due.is("values of 0", x.server(0, 2), 7);
            due.is("look(10)", x.look(10), 0);
            due.is("look(4)", x.look(4), 0);
            due.is("count(10)", x.count(10), 1);
            due.is("write", x.write(0, 150, 1), 0);
            due.is("give(0) again", x.give(0), false);
        }
        edges.refused(Edges.moving(4, false), 0, "give(0) in 4", x -> Edges.n(x.give(0)));
        Edges.Run cleaned = Edges.then(Edges.moving(4, false), x -> x.step(0, 1));
        edges.refused(cleaned, 0, "give(0) in 4, four cleaned", x -> Edges.n(x.give(0)));
        Edges.Run done = Edges.then(Edges.moving(4, false), x -> x.step(0, 100));
        edges.refused(done, 0, "give(0) in 5", x -> Edges.n(x.give(0)));
        Edges.Run undone = Edges.then(Edges.moving(3, false), x -> x.give(0));
        edges.refused(undone, 0, "give(0) in 6", x -> Edges.n(x.give(0)));
    }

    /** Terms 2: GIVEN UP: "not BROKEN, FROM and TO UP". */
    private static void givenUpIfNotBroken() {
        for (int stage = 1; stage <= 4; stage++) {
            edges.refused(Edges.moving(stage, true), 0, "give(0), broken in " + stage, x -> Edges.n(x.give(0)));
            for (int server = 0; server < 2; server++) {
                int gone = server;
                Edges.Run down = Edges.then(Edges.moving(stage, false), x -> x.down(gone));
                edges.refused(down, 0, "give(0) in " + stage + ", down " + gone, x -> Edges.n(x.give(0)));
                Edges.Run again = Edges.then(down, x -> x.up(gone));
                edges.refused(again, 0, "give(0) in " + stage + ", up again " + gone, x -> Edges.n(x.give(0)));
            }
        }
    }
}
