/** Terms, part 4 (acts that can be undone, what forgets them, the image) with promises 22 and 47: each boundary. */
public final class EdgesOfActsTest {
    private static final Due due = new Due("EdgesOfActsTest");
    private static final Edges edges = new Edges(due);
    private static final Edges.Run RICH = Edges::rich;

    public static void main(String[] args) {
        undoOfNone();
        eachActIsUndone();
        stepsUndoneInEachStage();
        recoverUndoneInEachStage();
        giveUndoneInEachStage();
        scriptsAreUndoneWhole();
        aScriptOfOneClause();
        refusedActsAreNone();
        theLatestSix();
        theSeventhFallsOut();
        actsBehindUndo();
        undoneMovesLeaveNothing();
        movesUndoneWithAScript();
        undoneChangesLeaveNothing();
        whatIsCountedStays();
        theTapeStays();
        whatForgets();
        whatIsRefusedForgetsNot();
        insistForgets();
        scanForgets();
        whatElseForgetsNot();
        noImage();
        imageGoneBackTo();
        imageMoreThanOnce();
        imageTakenAnew();
        imageLeavesTheTape();
        imageAndActs();
        imageHasWhatIsCounted();
        imageHasEachStage();
        imageOfWhatWasTakenAnew();
        due.end();
    }

    /** Promise 22: "NONE if there is none." */
    private static void undoOfNone() {
        edges.refused(Edges::nothing, -1, "undo()", x -> x.undo());
        edges.refused(Edges.then(RICH, x -> x.fetch(2)), -1, "undo(), forgotten", x -> x.undo());
        SpanMap x = new SpanMap();
        x.age();
        due.is("undo()", x.undo(), 0);
        due.is("undo()", x.undo(), -1);
        due.is("undo()", x.undo(), -1);
    }

    private interface Act {
        long on(SpanMap x);
    }

    /** The act is done (it answers want), and undone: all is as ahead of it, but what is counted. */
    private static void undone(Edges.Run run, String name, long want, Act act, Object... counted) {
        due.is(name, act.on(Edges.made(run)), want);
        int acts = Edges.made(run).look(7);
        SpanMap x = Edges.made(run);
        act.on(x);
        due.is("look(7) behind " + name, x.look(7), Math.min(6, acts + 1));
        edges.countsOnly(run, acts, name + ", undo()", y -> {
            act.on(y);
            return y.undo();
        }, counted);
    }

    /** Terms 4: ACTS: "age(), move(), split(), middle(), join(), give(), recover(), step()": "all is as ahead of it but what is counted". */
    private static void eachActIsUndone() {
        undone(RICH, "age()", 0, x -> x.age());
        undone(RICH, "move(200, 4)", 3, x -> x.move(200, 4), "count(8)", 4);
        undone(RICH, "split(200, 201)", 8, x -> x.split(200, 201), "count(6)", 5);
        undone(RICH, "middle(500)", 501, x -> x.middle(500), "count(6)", 5);
        undone(Edges.then(RICH, x -> x.split(500, 600)), "join(500)", 9, x -> x.join(500), "count(7)", 2);
        undone(RICH, "give(1)", 1, x -> Edges.n(x.give(1)), "count(10)", 1);
        undone(RICH, "recover(2)", 6, x -> x.recover(2), "count(10)", 1);
        undone(RICH, "step(1, 1)", 2, x -> x.step(1, 1), "count(11)", 7);
        undone(RICH, "step(1, 100)", 5, x -> x.step(1, 100), "count(11)", 11, "count(9)", 2, "count(13)", 9, "count(14)", 7);
    }

    /** Terms 4: step() is undone in each STAGE, also one that FAILS. */
    private static void stepsUndoneInEachStage() {
        Edges.Run copy = Edges.moving(1, false);
        undone(copy, "step(0, 1) in 1", 1, x -> x.step(0, 1), "count(11)", 1, "count(13)", 4);
        Edges.Run catchUp = Edges.then(Edges.moving(2, false), x -> {
            for (int key = 100; key < 106; key++) {
                x.write(0, key, 9);
            }
        });
        undone(catchUp, "step(0, 1) in 2", 2, x -> x.step(0, 1), "count(11)", 3, "count(13)", 9);
        undone(catchUp, "step(0, 2) in 2", 3, x -> x.step(0, 2), "count(11)", 4, "count(13)", 11);
        undone(Edges.moving(3, false), "step(0, 1) in 3", 4, x -> x.step(0, 1), "count(11)", 4);
        undone(Edges.moving(4, false), "step(0, 1) in 4", 4, x -> x.step(0, 1), "count(11)", 5, "count(14)", 4);
        undone(Edges.moving(4, false), "step(0, 2) in 4", 5, x -> x.step(0, 2), "count(11)", 6, "count(14)", 5, "count(9)", 1);
        for (int stage = 1; stage <= 4; stage++) {
            Edges.Run told = Edges.then(Edges.moving(stage, false), x -> x.fail(0, 1));
            Object[][] counted = {{"count(11)", 1, "count(12)", 1, "count(13)", 2}, {"count(11)", 3, "count(12)", 1},
                {"count(11)", 4, "count(12)", 1}, {"count(11)", 5, "count(12)", 1, "count(14)", 2}};
            undone(told, "step(0, 1) that fails in " + stage, stage, x -> x.step(0, 1), counted[stage - 1]);
        }
    }

    /** Terms 4: recover() is undone in each STAGE: what was lost is there again, and it is BROKEN. */
    private static void recoverUndoneInEachStage() {
        for (int stage = 1; stage <= 4; stage++) {
            undone(Edges.moving(stage, true), "recover(0) in " + stage, stage == 4 ? 5 : 6, x -> x.recover(0),
                stage == 4 ? "count(9)" : "count(10)", 1);
        }
    }

    /** Terms 4: give() is undone in each STAGE. */
    private static void giveUndoneInEachStage() {
        for (int stage = 1; stage <= 3; stage++) {
            undone(Edges.moving(stage, false), "give(0) in " + stage, 1, x -> Edges.n(x.give(0)), "count(10)", 1);
        }
    }

    /** Terms 4: a script() is one ACT, also what of it would have forgotten ACTS; CLIENTS' counts and NAMED stay. */
    private static void scriptsAreUndoneWhole() {
        Edges.Run run = Edges.then(Edges.moving(2, false), x -> {
            x.split(0, 50);
            x.join(0);
        });
        String text = "fetch 2;read 2 100;write 2 150 7;down 5;up 5;down 1;chunk 9;age;split 0 10;fail 0 3;read 0 0;";
        undone(run, "a script", 10, x -> Due.run(x, text), "count(0)", 1, "count(1)", 8, "count(4)", 1, "count(6)", 4,
            "clientOf(2, 2)", 2, "clientOf(2, 3)", 2, "clientOf(0, 2)", 8, "clientOf(0, 4)", 1, "clientOf(0, 5)", 6,
            "fault(2)", 10);
    }

    /** Terms 4: script() is an ACT, if "one clause was done at least". */
    private static void aScriptOfOneClause() {
        String[] none = {"", "up 0;", "up 0;age;", "age", "foo;", "age;100000;", "read 5 0;"};
        for (String text : none) {
            SpanMap x = new SpanMap();
            x.split(0, 500);
            Due.run(x, text);
            due.is("look(7) behind '" + text + "'", x.look(7), 1);
            due.is("undo()", x.undo(), 0);
            due.is("look(1)", x.look(1), 1);
        }
        String[] one = {"age;", "age;up 0;", "fetch 0;", "chunk 4;", "down 5;", "age;age;age;"};
        for (String text : one) {
            SpanMap x = new SpanMap();
            x.split(0, 500);
            Due.run(x, text);
            due.is("look(7) behind '" + text + "'", x.look(7), 2);
            due.is("undo()", x.undo(), 1);
            due.is("look(1)", x.look(1), 2);
            due.is("look(2)", x.look(2), 63);
            due.is("clientOf(0, 0)", x.clientOf(0, 0), 0);
        }
    }

    /** Terms 4: ACTS "as far as they are not refused": a refused one is none, and costs none of the six. */
    private static void refusedActsAreNone() {
        Edges.Run six = x -> {
            x.fetch(0);
            for (int i = 1; i <= 6; i++) {
                x.split(i - 1, i);
            }
        };
        due.is("look(7)", Edges.made(six).look(7), 6);
        edges.refused(six, -1, "split(0, 1)", x -> x.split(0, 1));
        edges.refused(six, -1, "middle(0)", x -> x.middle(0));
        edges.refused(six, -1, "join(6)", x -> x.join(6));
        edges.refused(six, -1, "move(0, 0)", x -> x.move(0, 0));
        edges.refused(six, -1, "step(0, 1)", x -> x.step(0, 1));
        edges.refused(six, 0, "give(0)", x -> Edges.n(x.give(0)));
        edges.refused(six, -1, "recover(0)", x -> x.recover(0));
        edges.refused(six, 0, "script()", x -> x.script());
    }

    /** Terms 4: "ACTS that can be UNDONE (the latest 6)"; promise 22: how many are left. */
    private static void theLatestSix() {
        for (int n = 0; n <= 20; n++) {
            SpanMap x = new SpanMap();
            for (int i = 1; i <= n; i++) {
                x.split(i - 1, i);
            }
            int kept = Math.min(n, 6);
            due.is("look(7) behind " + n, x.look(7), kept);
            for (int left = kept - 1; left >= 0; left--) {
                due.is("undo()", x.undo(), left);
                due.is("look(7)", x.look(7), left);
                due.is("look(1)", x.look(1), n - kept + left + 1);
                due.is("look(0)", x.look(0), n - kept + left + 1);
            }
            due.is("undo()", x.undo(), -1);
            due.is("look(1)", x.look(1), n - kept + 1);
        }
    }

    /** Terms 4: "(the latest 6)": the seventh lets the oldest fall out, and undo() does not bring it back. */
    private static void theSeventhFallsOut() {
        SpanMap x = new SpanMap();
        for (int i = 1; i <= 7; i++) {
            x.split(i - 1, i);
        }
        due.is("undo()", x.undo(), 5);
        x.age();
        due.is("look(7)", x.look(7), 6);
        x.age();
        due.is("look(7)", x.look(7), 6);
        for (int left = 5; left >= 0; left--) {
            due.is("undo()", x.undo(), left);
        }
        due.is("undo()", x.undo(), -1);
        due.is("look(1): two of the splits stay", x.look(1), 3);
    }

    /** Terms 4: an ACT behind an undo() comes in the place of the undone one. */
    private static void actsBehindUndo() {
        SpanMap x = new SpanMap();
        x.split(0, 100);
        x.split(100, 200);
        x.undo();
        x.split(100, 300);
        due.is("look(7)", x.look(7), 2);
        due.is("span(2, 0)", x.span(2, 0), 300);
        due.is("undo()", x.undo(), 1);
        due.is("look(1)", x.look(1), 2);
        due.is("undo()", x.undo(), 0);
        due.is("look(1)", x.look(1), 1);
        due.is("undo(), undone ones can't be undone", x.undo(), -1);
    }

    /** Terms 4: "all is as ahead of it": a MOVE that is undone leaves nothing behind for the next in its place. */
    private static void undoneMovesLeaveNothing() {
        SpanMap x = Edges.made(Edges.moving(1, false));
        x.write(0, 150, 1);
        x.move(0, 3);
        due.is("moveOf(1, 0)", x.moveOf(1, 0), 1);
        x.step(1, 100);
        due.is("moveOf(1, 11)", x.moveOf(1, 11), 4);
        x.undo();
        x.undo();
        due.is("moveOf(1, 0)", x.moveOf(1, 0), -1);
        due.is("trail(1, 0)", x.trail(1, 0), -1);
        due.is("lasts(1)", x.lasts(1), -1);
        due.is("span(0, 4)", x.span(0, 4), -1);
        due.is("passed(0, 0)", x.passed(0, 0), -1);
        due.is("server(3, 4)", x.server(3, 4), 0);
        due.is("move(200, 2)", x.move(200, 2), 1);
        edges.moveIs(x, 1, 1, 200, 1000, 0, 2, 200, 0, 0, 0, 0, 0, 0);
        due.is("moveOf(0, 6) stays", x.moveOf(0, 6), 1);
        x = new SpanMap();
        x.move(0, 1);
        x.undo();
        due.is("down(1), no move is there to be broken", x.down(1), 0);
        due.is("look(5)", x.look(5), 0);
    }

    /** Terms 4: "all is as ahead of it": a whole MOVE undone with its script, in another's place. */
    private static void movesUndoneWithAScript() {
        String[] texts = {"fetch 0;move 0 3;write 0 5 1;fail 0 7;step 0 1;", "fetch 0;move 0 3;write 0 5 1;fail 0 1;step 0 1;",
            "move 0 3;step 0 100;", "move 0 3;step 0 2;down 3;"};
        for (String text : texts) {
            SpanMap x = new SpanMap();
            x.split(0, 500);
            due.is("script()", Due.run(x, text), text.split(";").length);
            x.undo();
            due.is("moveOf(0, 0)", x.moveOf(0, 0), -1);
            due.is("look(5)", x.look(5), 0);
            due.is("move(500, 2)", x.move(500, 2), 0);
            edges.moveIs(x, 0, 1, 500, 1000, 0, 2, 500, 0, 0, 0, 0, 0, 0);
            due.is("trail(0, 0)", x.trail(0, 0), -1);
            due.is("step(0, 100)", x.step(0, 100), 5);
        }
    }

    /** Terms 4: "all is as ahead of it": CHANGES and EPOCHS that are undone are none, and come anew. */
    private static void undoneChangesLeaveNothing() {
        SpanMap x = new SpanMap();
        x.split(0, 500);
        x.move(0, 1);
        x.step(0, 100);
        due.is("owned(3, 0)", x.owned(3, 0), 1);
        x.undo();
        due.is("owned(3, 0)", x.owned(3, 0), -1);
        due.is("changeOf(3, 0)", x.changeOf(3, 0), -1);
        due.is("changeOf(2, 0)", x.changeOf(2, 0), 1);
        x.undo();
        due.is("join(0)", x.join(0), 3);
        due.is("changeOf(3, 0)", x.changeOf(3, 0), 2);
        due.is("changeOf(3, 2)", x.changeOf(3, 2), 0);
        due.is("owned(3, 0)", x.owned(3, 0), 0);
        due.is("passed(0, 0)", x.passed(0, 0), -1);
    }

    /** Terms 4: "but what is counted": each of count() stays behind undo(). */
    private static void whatIsCountedStays() {
        SpanMap x = new SpanMap();
        Due.run(x, "fetch 0;write 0 1 1;read 0 1;split 0 500;read 0 1;");
        Due.run(x, "fetch 0;read 0 1;");
        Due.run(x, "move 0 1;step 0 3;down 1;read 0 600;fetch 1;read 1 1;");
        Due.run(x, "up 1;recover 0;read 2 0;");
        Due.run(x, "split 500 600;join 500;move 500 2;step 1 2;fetch 3;write 3 600 1;");
        Due.run(x, "give 1;move 500 2;fail 2 1;step 2 1;");
        int[] before = new int[15];
        for (int what = 0; what < 15; what++) {
            before[what] = x.count(what);
        }
        int[] want = {3, 1, 1, 1, 1, 1, 2, 1, 3, 1, 1, 6, 1, 1, 0};
        for (int what = 0; what < 15; what++) {
            due.is("count(" + what + ")", x.count(what), want[what]);
        }
        while (x.look(7) > 0) {
            x.undo();
        }
        due.is("look(1)", x.look(1), 1);
        due.is("look(3)", x.look(3), 0);
        for (int what = 0; what < 15; what++) {
            due.is("count(" + what + ") behind undo()", x.count(what), before[what]);
        }
        due.is("clientOf(0, 2)", x.clientOf(0, 2), 5);
        due.is("clientOf(0, 3)", x.clientOf(0, 3), 4);
        due.is("clientOf(0, 4)", x.clientOf(0, 4), 1);
        due.is("clientOf(0, 5)", x.clientOf(0, 5), 2);
        due.is("clientOf(0, 0): the CACHE is as ahead of it", x.clientOf(0, 0), 0);
    }

    /** Terms 4: undo() leaves "THE TAPE, fault(), THE IMAGE". */
    private static void theTapeStays() {
        SpanMap x = new SpanMap();
        x.split(0, 100);
        x.image(true);
        x.split(100, 200);
        Due.run(x, "age;up 0;");
        Due.type(x, "chunk 7;");
        x.undo();
        x.undo();
        x.undo();
        due.is("look(8)", x.look(8), 8);
        due.is("fault(2)", x.fault(2), 1);
        due.is("image(false)", x.image(false), true);
        due.is("look(1)", x.look(1), 2);
        due.is("script()", x.script(), 1);
        due.is("look(6)", x.look(6), 7);
    }

    /** Terms 4: "Whatever else is done by a call (..) forgets them", each such call at the edge of not being refused. */
    private static void whatForgets() {
        Act[] calls = {x -> x.fetch(0), x -> x.fetch(5), x -> x.read(1, 99), x -> x.read(1, 98), x -> x.write(1, 5, 1),
            x -> x.write(1, 5, 99999), x -> x.insist(1, 5, 1), x -> x.insist(0, 300, 1), x -> Edges.n(x.fail(1, 0)),
            x -> Edges.n(x.fail(1, 99)), x -> Edges.n(x.fail(2, 1)), x -> x.down(0), x -> x.down(4), x -> Edges.n(x.up(5)),
            x -> Edges.n(x.chunk(1)), x -> Edges.n(x.chunk(4)), x -> Edges.n(x.chunk(16)), x -> x.scan(1, 5, 5),
            x -> x.scan(1, 198, 200), x -> Edges.n(x.image(false))};
        for (int i = 0; i < calls.length; i++) {
            SpanMap x = Edges.made(RICH);
            due.is("look(7) ahead of it", x.look(7), 3);
            calls[i].on(x);
            due.is("look(7) behind call " + i, x.look(7), 0);
            due.is("undo() behind call " + i, x.undo(), -1);
            x.age();
            due.is("one comes again, behind call " + i, x.look(7), 1);
            due.is("undo()", x.undo(), 0);
        }
    }

    /** Terms 4: "as far as not refused", "answered 0": what is refused forgets none. */
    private static void whatIsRefusedForgetsNot() {
        edges.refused(RICH, -1, "fetch(6)", x -> x.fetch(6));
        edges.refused(RICH, 0, "fail(0, 1), it is done", x -> Edges.n(x.fail(0, 1)));
        edges.refused(RICH, 0, "fail(1, 100)", x -> Edges.n(x.fail(1, 100)));
        edges.refused(RICH, -1, "down(5), it is down", x -> x.down(5));
        edges.refused(RICH, 0, "up(4), it is up", x -> Edges.n(x.up(4)));
        edges.refused(RICH, 0, "chunk(17)", x -> Edges.n(x.chunk(17)));
        edges.countsOnly(RICH, -4, "read(0, 0)", x -> x.read(0, 0),
            "clientOf(0, 2)", 9, "clientOf(0, 4)", 1, "clientOf(0, 5)", 2, "count(4)", 1);
        edges.countsOnly(RICH, 3, "write(0, 0, 1)", x -> x.write(0, 0, 1),
            "clientOf(0, 2)", 9, "clientOf(0, 4)", 1, "clientOf(0, 5)", 2, "count(4)", 1);
        edges.countsOnly(RICH, 1, "insist(2, 0, 1)", x -> x.insist(2, 0, 1), "clientOf(2, 2)", 1, "count(2)", 1);
    }

    /** Terms 4: "insist() that FETCHES or is answered 0": also one that FETCHES and is then answered 2 or 4. */
    private static void insistForgets() {
        SpanMap x = new SpanMap();
        x.fetch(0);
        x.split(0, 500);
        x.move(0, 1);
        x.step(0, 2);
        due.is("insist(0, 5, 1)", x.insist(0, 5, 1), 4);
        due.is("look(7)", x.look(7), 0);
        x.age();
        due.is("insist(0, 5, 1), it fetches no more", x.insist(0, 5, 1), 4);
        due.is("look(7)", x.look(7), 1);
        due.is("insist(0, 500, 1)", x.insist(0, 500, 1), 0);
        due.is("look(7)", x.look(7), 0);
        x.age();
        due.is("insist(1, 500, 1)", x.insist(1, 500, 1), 1);
        due.is("look(7)", x.look(7), 1);
        x.step(0, 100);
        x.down(1);
        x.age();
        due.is("insist(0, 5, 1): fetches, then down", x.insist(0, 5, 1), 2);
        due.is("look(7)", x.look(7), 0);
        x.age();
        due.is("insist(0, 5, 1): down", x.insist(0, 5, 1), 2);
        due.is("look(7)", x.look(7), 1);
    }

    /** Promise 36: "(Forgets ACTS, if one is answered 0.)" */
    private static void scanForgets() {
        SpanMap x = new SpanMap();
        x.split(0, 500);
        x.fetch(0);
        x.split(500, 600);
        due.is("scan(0, 500, 510)", x.scan(0, 500, 510), -4);
        due.is("look(7)", x.look(7), 1);
        due.is("scan(0, 500, 561)", x.scan(0, 500, 561), -10);
        due.is("look(7)", x.look(7), 1);
        due.is("scan(1, 0, 10)", x.scan(1, 0, 10), -2);
        due.is("look(7)", x.look(7), 1);
        due.is("scan(0, 499, 500)", x.scan(0, 499, 500), -4);
        due.is("look(7)", x.look(7), 0);
        x.age();
        due.is("scan(0, 0, 0)", x.scan(0, 0, 0), 0);
        due.is("look(7)", x.look(7), 0);
    }

    /** Terms 4: feed(), end(), script() of no clause, image(true) and all questions forget none. */
    private static void whatElseForgetsNot() {
        SpanMap x = Edges.made(RICH);
        x.feed(1, 2, 3, 4, 5);
        x.end(0);
        x.script();
        x.image(true);
        x.rounds(0);
        x.emptied(0, 0);
        x.lasts(1);
        due.is("look(7)", x.look(7), 3);
        due.is("undo()", x.undo(), 2);
    }

    /** Promise 47: "false if there is none." */
    private static void noImage() {
        edges.refused(Edges::nothing, 0, "image(false)", x -> Edges.n(x.image(false)));
        edges.refused(x -> {
            x.split(0, 500);
            x.age();
        }, 0, "image(false), with acts", x -> Edges.n(x.image(false)));
    }

    private static void muchElse(SpanMap x) {
        x.up(5);
        x.down(4);
        x.chunk(1);
        x.insist(0, 300, 77);
        x.read(3, 0);
        x.fetch(4);
        x.write(4, 50, 8);
        x.step(1, 100);
        x.recover(2);
        x.fetch(4);
        x.scan(4, 0, 60);
        x.split(0, 7);
        x.join(200);
        x.move(7, 3);
        x.fail(3, 2);
        x.step(3, 9);
        x.age();
    }

    /** Without acts, with an image of just this. */
    private static void imaged(SpanMap x) {
        Edges.rich(x);
        x.fetch(1);
        x.image(true);
    }

    /** Terms 4: "THE IMAGE: all that is and was told but THE TAPE, fault(), ACTS, as it was when it was taken". */
    private static void imageGoneBackTo() {
        edges.refused(EdgesOfActsTest::imaged, 1, "much else, image(false)", x -> {
            muchElse(x);
            return Edges.n(x.image(false));
        });
        edges.refused(EdgesOfActsTest::imaged, 1, "image(false) at once", x -> Edges.n(x.image(false)));
    }

    /** Terms 4: "gone back to it may be more than once". */
    private static void imageMoreThanOnce() {
        edges.refused(EdgesOfActsTest::imaged, 1, "three times image(false)", x -> {
            for (int times = 0; times < 3; times++) {
                muchElse(x);
                x.image(false);
            }
            x.split(500, 501);
            return Edges.n(x.image(false));
        });
    }

    /** Promise 47: THE IMAGE taken anew is the one that counts; it is not part of itself. */
    private static void imageTakenAnew() {
        SpanMap x = new SpanMap();
        x.image(true);
        x.split(0, 100);
        x.image(true);
        x.split(100, 200);
        x.image(false);
        due.is("look(1)", x.look(1), 2);
        x.image(false);
        due.is("look(1), again", x.look(1), 2);
        x.split(100, 300);
        x.image(true);
        x.undo();
        due.is("look(1)", x.look(1), 2);
        x.image(false);
        due.is("look(1)", x.look(1), 3);
        due.is("span(2, 0)", x.span(2, 0), 300);
    }

    /** Terms 4: THE IMAGE is without "THE TAPE, fault()". */
    private static void imageLeavesTheTape() {
        SpanMap x = new SpanMap();
        Due.run(x, "foo;");
        Due.type(x, "age;age;");
        x.image(true);
        due.is("script()", x.script(), 2);
        x.image(false);
        due.is("look(8)", x.look(8), 0);
        due.is("fault(0)", x.fault(0), 0);
        Due.type(x, "chunk 3;up 0;");
        x.image(false);
        due.is("look(8)", x.look(8), 13);
        due.is("script()", x.script(), 1);
        x.image(false);
        due.is("fault(2)", x.fault(2), 1);
        due.is("look(6)", x.look(6), 4);
    }

    /** Terms 4: "(no ACTS are left then)"; taking it leaves them. */
    private static void imageAndActs() {
        SpanMap x = new SpanMap();
        x.split(0, 100);
        x.image(true);
        due.is("look(7), taken", x.look(7), 1);
        x.age();
        due.is("look(7)", x.look(7), 2);
        due.is("image(false)", x.image(false), true);
        due.is("look(7), gone back", x.look(7), 0);
        due.is("undo()", x.undo(), -1);
        x.age();
        due.is("undo()", x.undo(), 0);
        due.is("look(1)", x.look(1), 2);
    }

    /** Terms 4: THE IMAGE is "all that is": what is counted, too. */
    private static void imageHasWhatIsCounted() {
        SpanMap x = new SpanMap();
        x.image(true);
        x.fetch(0);
        x.write(0, 5, 5);
        x.split(0, 100);
        x.read(0, 5);
        x.move(100, 1);
        x.step(0, 100);
        x.image(false);
        for (int what = 0; what < 15; what++) {
            due.is("count(" + what + ")", x.count(what), 0);
        }
        for (int what = 0; what < 6; what++) {
            due.is("clientOf(0, " + what + ")", x.clientOf(0, what), 0);
        }
        due.is("look(0)", x.look(0), 1);
        due.is("changeOf(2, 0)", x.changeOf(2, 0), -1);
        due.is("stored(0, 5)", x.stored(0, 5), 0);
        due.is("hot(0, 0)", x.hot(0, 0), -1);
    }

    /** Terms 4: THE IMAGE is "as it was when it was taken", though other MOVES and CHANGES had these numbers meanwhile. */
    private static void imageOfWhatWasTakenAnew() {
        SpanMap x = new SpanMap();
        x.split(0, 100);
        x.split(100, 200);
        x.move(100, 4);
        x.image(true);
        x.undo();
        x.undo();
        x.undo();
        x.split(0, 700);
        x.join(0);
        x.move(0, 5);
        x.fetch(0);
        x.write(0, 3, 3);
        x.step(0, 2);
        x.image(false);
        int[][] changes = {{0, -1, -1}, {1, 0, 0}, {1, 100, 0}};
        for (int epoch = 1; epoch <= 3; epoch++) {
            for (int what = 0; what < 3; what++) {
                due.is("changeOf(" + epoch + ", " + what + ")", x.changeOf(epoch, what), changes[epoch - 1][what]);
            }
        }
        edges.moveIs(x, 0, 1, 100, 200, 0, 4, 100, 0, 0, 0, 0, 0, 0);
        due.is("span(1, 4)", x.span(1, 4), 0);
        due.is("step(0, 100)", x.step(0, 100), 5);
        due.is("owned(4, 150)", x.owned(4, 150), 4);
        due.is("owned(4, 99)", x.owned(4, 99), 0);
        x = Edges.made(Edges.moving(4, false));
        x.step(0, 100);
        x.move(100, 5);
        x.image(true);
        x.undo();
        x.move(0, 2);
        x.image(false);
        edges.moveIs(x, 1, 1, 100, 200, 1, 5, 100, 0, 0, 0, 0, 0, 0);
        due.is("step(1, 100)", x.step(1, 100), 5);
        due.is("server(5, 2)", x.server(5, 2), 5);
        due.is("server(1, 2)", x.server(1, 2), 0);
    }

    /** Terms 4: "an image from which all goes on": a MOVE in each STAGE goes on from it as it would have. */
    private static void imageHasEachStage() {
        for (int stage = 1; stage <= 4; stage++) {
            for (int broken = 0; broken < 2; broken++) {
                Edges.Run run = Edges.then(Edges.moving(stage, broken == 1), x -> {
                    x.write(0, 150, 3);
                    x.fetch(3);
                    x.image(true);
                });
                edges.refused(run, 1, "recover() or steps, image(false), in " + stage, x -> {
                    x.recover(0);
                    x.step(0, 100);
                    x.down(1);
                    x.up(1);
                    x.recover(0);
                    x.split(100, 150);
                    return Edges.n(x.image(false));
                });
            }
        }
    }
}
