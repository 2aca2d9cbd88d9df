/** Terms, part 2 (changes, the middle, moves and their trails; steps: EdgesOfStepsTest): each sentence that names a boundary. */
public final class EdgesOfTerms2Test {
    private static final Due due = new Due("EdgesOfTerms2Test");
    private static final Edges edges = new Edges(due);
    private static final Edges.Run RICH = Edges::rich;

    public static void main(String[] args) {
        splitWithin();
        splitOfOneKey();
        joinOfTheLast();
        joinTakesALowAway();
        joinOfTwoOwners();
        noChangeWhileAMoveGoesOn();
        changesBehindAMove();
        middleIsTheLeastKey();
        middleIsAboveTheLow();
        noMiddleOfOneKey();
        noMiddleWithoutWeight();
        noMiddleIfThereIsNone();
        middleOfItsKeysAlone();
        movesAreNumbered();
        atMostTwelveMoves();
        atMostFourGoOn();
        toAnotherServer();
        bothUpAsItBegins();
        asItBegins();
        trailOfItsSpanAlone();
        trailHasAKeyOnce();
        trailInStages1And2();
        sixtyKeysInTheTrail();
        sixtyKeysWhileBroken();
        sixtyKeysByInsistAndScript();
        chunks();
        due.end();
    }

    private static void moveIs(SpanMap x, int move, int stage, int cursor, int trail, int broken) {
        due.is("moveOf(" + move + ", 0), its stage", x.moveOf(move, 0), stage);
        due.is("moveOf(" + move + ", 5), its cursor", x.moveOf(move, 5), cursor);
        due.is("moveOf(" + move + ", 6), its trail", x.moveOf(move, 6), trail);
        due.is("moveOf(" + move + ", 7), broken", x.moveOf(move, 7), broken);
    }

    /** Terms 2: "SPLIT of a SPAN (named by its LOW) at a KEY within (not its LOW)". */
    private static void splitWithin() {
        Edges.Run three = x -> {
            x.split(0, 100);
            x.split(100, 200);
        };
        int[] within = {101, 102, 198, 199};
        for (int key : within) {
            SpanMap x = Edges.made(three);
            due.is("split(100, " + key + ")", x.split(100, key), 4);
            due.is("span(1, 1)", x.span(1, 1), key);
            due.is("span(2, 0)", x.span(2, 0), key);
            due.is("span(2, 1)", x.span(2, 1), 200);
            due.is("span(1, 3)", x.span(1, 3), 4);
            due.is("span(2, 3)", x.span(2, 3), 4);
            due.is("span(3, 3)", x.span(3, 3), 3);
        }
        int[] without = {Edges.LEAST, -1, 0, 50, 98, 99, 100, 200, 201, 999, 1000, Edges.GREATEST};
        for (int key : without) {
            edges.refused(three, -1, "split(100, " + key + ")", x -> x.split(100, key));
        }
        int[] noLows = {Edges.LEAST, -1, 1, 99, 101, 150, 199, 201, 999, 1000, Edges.GREATEST};
        for (int low : noLows) {
            edges.refused(three, -1, "split(" + low + ", 150)", x -> x.split(low, 150));
            edges.refused(three, -1, "split(" + low + ", low + 1)", x -> x.split(low, low + 1));
            edges.refused(three, -1, "middle(" + low + ")", x -> x.middle(low));
            edges.refused(three, -1, "join(" + low + ")", x -> x.join(low));
            edges.refused(three, -1, "move(" + low + ", 1)", x -> x.move(low, 1));
        }
        SpanMap x = Edges.made(three);
        due.is("split(0, 1)", x.split(0, 1), 4);
        due.is("split(200, 999)", x.split(200, 999), 5);
    }

    /** Terms 2: a SPAN of one KEY has none within that is not its LOW. */
    private static void splitOfOneKey() {
        Edges.Run ones = x -> {
            x.split(0, 1);
            x.split(1, 2);
            x.split(2, 999);
        };
        int[] lows = {0, 1, 999};
        for (int low : lows) {
            edges.refused(ones, -1, "split(" + low + ", " + low + ")", x -> x.split(low, low));
            edges.refused(ones, -1, "split(" + low + ", " + (low + 1) + ")", x -> x.split(low, low + 1));
            edges.refused(ones, -1, "split(" + low + ", " + (low - 1) + ")", x -> x.split(low, low - 1));
        }
        SpanMap x = Edges.made(ones);
        due.is("split of two keys and more", x.split(2, 3), 5);
        x = new SpanMap();
        x.split(0, 2);
        due.is("split of two keys", x.split(0, 1), 3);
    }

    /** Terms 2: "JOINED: a SPAN and the next one": the last one has none next to it. */
    private static void joinOfTheLast() {
        edges.refused(Edges::nothing, -1, "join(0) of the only one", x -> x.join(0));
        Edges.Run two = x -> x.split(0, 999);
        edges.refused(two, -1, "join(999)", x -> x.join(999));
        SpanMap x = Edges.made(two);
        due.is("join(0)", x.join(0), 3);
        due.is("span(0, 1)", x.span(0, 1), 1000);
        due.is("span(0, 3)", x.span(0, 3), 3);
        due.is("look(1)", x.look(1), 1);
        due.is("join(0), it is the only one now", x.join(0), -1);
        x = Edges.made(y -> {
            for (int i = 1; i < 32; i++) {
                y.split(i - 1, i);
            }
        });
        due.is("join of the 31st and the 32nd", x.join(30), 33);
        due.is("span(30, 1)", x.span(30, 1), 1000);
        due.is("span(29, 1)", x.span(29, 1), 30);
        due.is("span(31, 0)", x.span(31, 0), -1);
    }

    /** Terms 2: "JOINED: .. one SPAN": the LOW of the next one names no SPAN any more. */
    private static void joinTakesALowAway() {
        Edges.Run joined = x -> {
            x.fetch(0);
            x.write(0, 700, 1);
            x.split(0, 500);
            x.join(0);
        };
        edges.refused(joined, -1, "split(500, 600)", x -> x.split(500, 600));
        edges.refused(joined, -1, "middle(500)", x -> x.middle(500));
        edges.refused(joined, -1, "join(500)", x -> x.join(500));
        edges.refused(joined, -1, "move(500, 1)", x -> x.move(500, 1));
        due.is("split(0, 500)", Edges.made(joined).split(0, 500), 4);
    }

    /** Terms 2: "JOINED: .. of one OWNER". */
    private static void joinOfTwoOwners() {
        Edges.Run owners = x -> {
            x.split(0, 100);
            x.split(100, 200);
            x.move(100, 1);
            x.step(0, 100);
        };
        edges.refused(owners, -1, "join(0)", x -> x.join(0));
        edges.refused(owners, -1, "join(100)", x -> x.join(100));
        SpanMap x = Edges.made(owners);
        x.move(200, 1);
        x.step(1, 100);
        due.is("join(100), one owner now", x.join(100), 6);
        due.is("its owner", x.span(1, 2), 1);
        due.is("join(0) still not", x.join(0), -1);
        x.move(100, 0);
        x.step(2, 100);
        due.is("join(0) now", x.join(0), 8);
        due.is("look(1)", x.look(1), 1);
    }

    /** Terms 2: "None of a SPAN of which a MOVE goes on", in each of the STAGES 1 to 4, BROKEN or not. */
    private static void noChangeWhileAMoveGoesOn() {
        for (int stage = 1; stage <= 4; stage++) {
            for (int broken = 0; broken < 2; broken++) {
                Edges.Run run = Edges.moving(stage, broken == 1);
                String state = " in " + stage + (broken == 1 ? ", broken" : "");
                due.is("moveOf(0, 0)" + state, Edges.made(run).moveOf(0, 0), stage);
                due.is("middleOf(1)" + state, Edges.made(run).middleOf(1), 103);
                edges.refused(run, -1, "split(100, 101)" + state, x -> x.split(100, 101));
                edges.refused(run, -1, "split(100, 199)" + state, x -> x.split(100, 199));
                edges.refused(run, -1, "middle(100)" + state, x -> x.middle(100));
                edges.refused(run, -1, "join(0), the next one moves" + state, x -> x.join(0));
                edges.refused(run, -1, "join(100)" + state, x -> x.join(100));
                edges.refused(run, -1, "move(100, 2)" + state, x -> x.move(100, 2));
                edges.refused(run, -1, "move(100, 0)" + state, x -> x.move(100, 0));
                SpanMap x = Edges.made(run);
                int epoch = x.look(0);
                due.is("split(0, 99) beside it" + state, x.split(0, 99), epoch + 1);
                due.is("split(200, 201) beside it" + state, x.split(200, 201), epoch + 2);
                due.is("join(0) beside it" + state, x.join(0), epoch + 3);
                due.is("move(200, 3) beside it" + state, x.move(200, 3), 1);
            }
        }
    }

    /** Terms 2: a MOVE "goes on in 1 to 4": in 5 and 6 its SPAN may be changed. */
    private static void changesBehindAMove() {
        SpanMap x = Edges.made(Edges.moving(4, false));
        x.step(0, 100);
        moveIs(x, 0, 5, 200, 0, 0);
        due.is("split(100, 150), done", x.split(100, 150), 5);
        due.is("join(100), done", x.join(100), 6);
        due.is("move(100, 0), done", x.move(100, 0), 1);
        x.give(1);
        due.is("middle(100), undone", x.middle(100), 103);
        x = Edges.made(Edges.moving(2, true));
        x.recover(0);
        moveIs(x, 0, 6, 200, 0, 0);
        due.is("join(0), undone", x.join(0), 4);
        due.is("move(0, 1), undone", x.move(0, 1), 1);
    }

    /** A span 0 .. end - 1 with reads of keys: key, times, key, times .. */
    private static SpanMap read(int end, int... keysAndTimes) {
        SpanMap x = new SpanMap();
        if (end < 1000) {
            x.split(0, end);
        }
        x.fetch(0);
        for (int i = 0; i < keysAndTimes.length; i += 2) {
            for (int times = 0; times < keysAndTimes[i + 1]; times++) {
                x.read(0, keysAndTimes[i]);
            }
        }
        return x;
    }

    /** Terms 2: "MIDDLE of a SPAN: the least KEY above its LOW, so that twice the WEIGHT .. below that is its WEIGHT at least". */
    private static void middleIsTheLeastKey() {
        due.is("half is enough", read(1000, 3, 1, 7, 1).middleOf(0), 4);
        due.is("less than half is not", read(1000, 3, 1, 7, 2).middleOf(0), 8);
        due.is("more than half", read(1000, 3, 2, 7, 1).middleOf(0), 4);
        due.is("of three", read(1000, 3, 2, 7, 1, 900, 3).middleOf(0), 8);
        due.is("of three, one less", read(1000, 3, 2, 7, 1, 900, 4).middleOf(0), 901);
        due.is("the last key as the middle", read(1000, 998, 1, 999, 1).middleOf(0), 999);
        SpanMap x = read(1000, 3, 1, 7, 1);
        due.is("middle(0)", x.middle(0), 4);
        due.is("span(1, 0)", x.span(1, 0), 4);
        due.is("look(0)", x.look(0), 2);
        due.is("changeOf(2, 0)", x.changeOf(2, 0), 1);
    }

    /** Terms 2: the MIDDLE is "above its LOW", though the LOW may have all the WEIGHT. */
    private static void middleIsAboveTheLow() {
        due.is("all at 0", read(1000, 0, 5).middleOf(0), 1);
        SpanMap x = new SpanMap();
        x.split(0, 500);
        x.fetch(0);
        x.read(0, 500);
        due.is("all at 500", x.middleOf(1), 501);
        due.is("middle(500)", x.middle(500), 501);
        due.is("one key now", x.middleOf(1), -1);
    }

    /** Terms 2: MIDDLE: "none, if the SPAN has one KEY". */
    private static void noMiddleOfOneKey() {
        Edges.Run ones = x -> {
            x.split(0, 1);
            x.split(1, 999);
            x.fetch(0);
            x.write(0, 0, 1);
            x.write(0, 999, 1);
        };
        SpanMap x = Edges.made(ones);
        due.is("middleOf(0)", x.middleOf(0), -1);
        due.is("middleOf(2)", x.middleOf(2), -1);
        edges.refused(ones, -1, "middle(0)", y -> y.middle(0));
        edges.refused(ones, -1, "middle(999)", y -> y.middle(999));
        due.is("two keys, at the first", read(2, 0, 1).middleOf(0), 1);
        due.is("two keys alike", read(2, 0, 1, 1, 1).middleOf(0), 1);
    }

    /** Terms 2: MIDDLE: none, if the SPAN has "no WEIGHT". */
    private static void noMiddleWithoutWeight() {
        edges.refused(Edges::nothing, -1, "middle(0)", x -> x.middle(0));
        due.is("middleOf(0)", new SpanMap().middleOf(0), -1);
        Edges.Run aged = x -> {
            x.fetch(0);
            x.read(0, 5);
            x.age();
        };
        edges.refused(aged, -1, "middle(0)", x -> x.middle(0));
        SpanMap x = Edges.made(aged);
        due.is("middleOf(0), aged to nothing", x.middleOf(0), -1);
        x.read(0, 5);
        due.is("middleOf(0), weight 1", x.middleOf(0), 6);
    }

    /** Terms 2: MIDDLE: none, if "there is none": the last KEY has more than half. */
    private static void noMiddleIfThereIsNone() {
        due.is("all at the last key", read(1000, 999, 1).middleOf(0), -1);
        due.is("more than half at the last key", read(1000, 5, 1, 999, 2).middleOf(0), -1);
        due.is("half at the last key", read(1000, 5, 2, 999, 2).middleOf(0), 6);
        due.is("two keys, more at the last", read(2, 0, 1, 1, 2).middleOf(0), -1);
        due.is("two keys, all at the last", read(2, 1, 1).middleOf(0), -1);
        Edges.Run last = x -> {
            x.fetch(0);
            x.read(0, 5);
            x.write(0, 999, 1);
        };
        edges.refused(last, -1, "middle(0)", x -> x.middle(0));
    }

    /** Terms 2: MIDDLE counts "its KEYS": those of the SPANS beside it have no part in it. */
    private static void middleOfItsKeysAlone() {
        SpanMap x = new SpanMap();
        x.split(0, 100);
        x.split(100, 200);
        x.fetch(0);
        x.write(0, 99, 1);
        x.write(0, 200, 1);
        due.is("no weight of its own", x.middleOf(1), -1);
        x.read(0, 150);
        x.read(0, 199);
        due.is("half of two", x.middleOf(1), 151);
        due.is("of the one ahead: all at its last", x.middleOf(0), -1);
        due.is("of the one behind: all at its low", x.middleOf(2), 201);
    }

    /** Terms 2: "MOVES (numbered from 0 on": an undone call gives its number back, a refused one takes none. */
    private static void movesAreNumbered() {
        SpanMap x = new SpanMap();
        due.is("a refused one", x.move(0, 0), -1);
        due.is("move(0, 1)", x.move(0, 1), 0);
        due.is("undo()", x.undo(), 0);
        due.is("moveOf(0, 0)", x.moveOf(0, 0), -1);
        due.is("look(3)", x.look(3), 0);
        due.is("move(0, 2)", x.move(0, 2), 0);
        due.is("moveOf(0, 4)", x.moveOf(0, 4), 2);
        x.give(0);
        due.is("move(0, 3), the first has ended", x.move(0, 3), 1);
        due.is("moveOf(0, 0)", x.moveOf(0, 0), 6);
        due.is("moveOf(1, 0)", x.moveOf(1, 0), 1);
        due.is("span(0, 4)", x.span(0, 4), 1);
    }

    /** Terms 2: "12 at most", also if they have ended. */
    private static void atMostTwelveMoves() {
        Edges.Run eleven = x -> {
            x.split(0, 500);
            for (int i = 0; i < 11; i++) {
                x.move(0, 1);
                x.give(i);
            }
        };
        SpanMap x = Edges.made(eleven);
        due.is("look(3)", x.look(3), 11);
        due.is("the 12th", x.move(0, 5), 11);
        due.is("moveOf(11, 4)", x.moveOf(11, 4), 5);
        due.is("moveOf(12, 0)", x.moveOf(12, 0), -1);
        Edges.Run twelve = Edges.then(eleven, y -> {
            y.move(0, 1);
            y.step(11, 100);
        });
        edges.refused(twelve, -1, "move(500, 1), the 13th", y -> y.move(500, 1));
        edges.refused(twelve, -1, "move(0, 2), the 13th", y -> y.move(0, 2));
        due.is("down(1), twelve there are, and none goes on", Edges.made(twelve).down(1), 0);
        x = Edges.made(twelve);
        due.is("split", x.split(500, 600), 4);
        due.is("undo()", x.undo(), 5);
        due.is("undo() of the steps", x.undo(), 4);
        due.is("undo() of the move", x.undo(), 3);
        due.is("the 12th once more", x.move(500, 1), 11);
    }

    /** Terms 2: "4 at most go on", BROKEN ones among them; the 4th of one end lets another begin. */
    private static void atMostFourGoOn() {
        Edges.Run three = x -> {
            for (int i = 1; i < 6; i++) {
                x.split((i - 1) * 10, i * 10);
            }
            x.move(0, 1);
            x.move(10, 2);
            x.move(20, 3);
        };
        SpanMap x = Edges.made(three);
        due.is("look(4)", x.look(4), 3);
        due.is("the 4th that goes on", x.move(30, 4), 3);
        Edges.Run four = Edges.then(three, y -> {
            y.move(30, 4);
            y.step(1, 3);
            y.fail(2, 1);
            y.step(2, 1);
        });
        edges.refused(four, -1, "move(40, 5), the 5th that goes on", y -> y.move(40, 5));
        x = Edges.made(four);
        due.is("one switched, one broken: look(4)", x.look(4), 4);
        x.step(1, 1);
        due.is("one is done: look(4)", x.look(4), 3);
        due.is("move(40, 5)", x.move(40, 5), 4);
        due.is("the 5th again", x.move(50, 5), -1);
        x.recover(2);
        due.is("one is undone", x.move(50, 5), 5);
        due.is("look(4)", x.look(4), 4);
    }

    /** Terms 2: "TO (another SERVER)". */
    private static void toAnotherServer() {
        edges.refused(Edges::nothing, -1, "move(0, 0)", x -> x.move(0, 0));
        edges.refused(RICH, -1, "move(500, 1), it is of 1", x -> x.move(500, 1));
        edges.refused(RICH, -1, "move(200, 0), it is of 0", x -> x.move(200, 0));
        due.is("move(500, 0)", Edges.made(RICH).move(500, 0), 3);
        due.is("move(200, 1)", Edges.made(RICH).move(200, 1), 3);
    }

    /** Terms 2: "both UP as it begins". */
    private static void bothUpAsItBegins() {
        edges.refused(RICH, -1, "move(200, 5), TO is down", x -> x.move(200, 5));
        Edges.Run fromDown = x -> x.down(0);
        edges.refused(fromDown, -1, "move(0, 1), FROM is down", x -> x.move(0, 1));
        Edges.Run bothDown = x -> {
            x.down(0);
            x.down(1);
        };
        edges.refused(bothDown, -1, "move(0, 1), both are down", x -> x.move(0, 1));
        SpanMap x = Edges.made(bothDown);
        x.up(1);
        due.is("move(0, 1), FROM is down", x.move(0, 1), -1);
        x.up(0);
        due.is("move(0, 1), both are up", x.move(0, 1), 0);
    }

    /** Terms 2: "STAGE: 1 COPY"; "a CURSOR (the SPAN's LOW at first), a TRAIL of KEYS (none at first), and is BROKEN or not". */
    private static void asItBegins() {
        SpanMap x = new SpanMap();
        x.split(0, 999);
        x.fetch(0);
        x.write(0, 999, 1);
        x.move(999, 4);
        edges.moveIs(x, 0, 1, 999, 1000, 0, 4, 999, 0, 0, 0, 0, 0, 0);
        due.is("trail(0, 0)", x.trail(0, 0), -1);
        due.is("values of TO", x.server(4, 2), 0);
        due.is("span(1, 5)", x.span(1, 5), 0);
        x.give(0);
        x.undo();
        x.undo();
        x.move(0, 2);
        edges.moveIs(x, 0, 1, 0, 999, 0, 2, 0, 0, 0, 0, 0, 0, 0);
    }

    /** Terms 2: "WRITES done in its SPAN": from its LOW to the KEY ahead of its end. */
    private static void trailOfItsSpanAlone() {
        SpanMap x = Edges.made(Edges.moving(1, false));
        due.is("write 99", x.write(0, 99, 1), 0);
        due.is("write 200", x.write(0, 200, 1), 0);
        due.is("trail", x.moveOf(0, 6), 0);
        due.is("write 199", x.write(0, 199, 1), 0);
        due.is("write 100", x.write(0, 100, 1), 0);
        due.is("trail(0, 0)", x.trail(0, 0), 199);
        due.is("trail(0, 1): in the order of the writes", x.trail(0, 1), 100);
        due.is("trail(0, 2)", x.trail(0, 2), -1);
        x.read(0, 150);
        due.is("a read leaves no trail", x.moveOf(0, 6), 2);
        x.write(0, 150, 0);
        x.write(2, 150, 1);
        due.is("refused writes leave none", x.moveOf(0, 6), 2);
    }

    /** Terms 2: "the KEY comes behind its TRAIL (if it is there already: not again)". */
    private static void trailHasAKeyOnce() {
        SpanMap x = Edges.made(Edges.moving(2, false));
        int[] keys = {110, 111, 110, 112, 110, 111};
        for (int key : keys) {
            x.write(0, key, key + 5);
        }
        due.is("trail", x.moveOf(0, 6), 3);
        for (int i = 0; i < 3; i++) {
            due.is("trail(0, " + i + ")", x.trail(0, i), 110 + i);
        }
        x.chunk(2);
        x.step(0, 1);
        due.is("trail(0, 0)", x.trail(0, 0), 112);
        x.write(0, 111, 9);
        x.write(0, 112, 9);
        due.is("what went comes again, behind", x.trail(0, 1), 111);
        due.is("trail", x.moveOf(0, 6), 2);
    }

    /** Terms 2: "WRITES done in its SPAN in 1, 2": in 3 none is done, in 4 and behind it there is no TRAIL. */
    private static void trailInStages1And2() {
        int[] trails = {1, 1, 0, 0};
        int[] answers = {0, 0, 4, 0};
        for (int stage = 1; stage <= 4; stage++) {
            for (int broken = 0; broken < 2; broken++) {
                SpanMap x = Edges.made(Edges.moving(stage, broken == 1));
                due.is("write in " + stage, x.write(0, 150, 1), answers[stage - 1]);
                due.is("trail in " + stage, x.moveOf(0, 6), trails[stage - 1]);
            }
        }
        SpanMap x = Edges.made(Edges.moving(4, false));
        x.step(0, 100);
        x.write(0, 150, 1);
        due.is("trail in 5", x.moveOf(0, 6), 0);
        x = Edges.made(Edges.moving(1, false));
        x.give(0);
        x.write(0, 150, 1);
        due.is("trail in 6", x.moveOf(0, 6), 0);
    }

    /** The move 0 of the span 0 .. 499 in stage 1 or 2, with n keys 0, 1, .. in its trail. */
    private static Edges.Run trail(int stage, int n) {
        return x -> {
            x.split(0, 500);
            x.fetch(0);
            x.move(0, 1);
            if (stage == 2) {
                x.step(0, 1);
            }
            for (int key = 0; key < n; key++) {
                x.write(0, key, 1);
            }
        };
    }

    /** Terms 2: "With 60 KEYS in the TRAIL a WRITE in its SPAN of a KEY that is not in it is answered as if the SPAN were FROZEN". */
    private static void sixtyKeysInTheTrail() {
        for (int stage = 1; stage <= 2; stage++) {
            SpanMap x = Edges.made(trail(stage, 59));
            due.is("the 60th", x.write(0, 499, 1), 0);
            due.is("trail(0, 59)", x.trail(0, 59), 499);
            due.is("the 61st", x.write(0, 60, 1), 4);
            due.is("the 60th again", x.write(0, 499, 2), 0);
            Edges.Run full = trail(stage, 60);
            due.is("moveOf(0, 0)", Edges.made(full).moveOf(0, 0), stage);
            due.is("moveOf(0, 6)", Edges.made(full).moveOf(0, 6), 60);
            edges.countsOnly(full, 4, "write(0, 60, 1)", y -> y.write(0, 60, 1), "clientOf(0, 2)", 61, "count(5)", 1);
            edges.countsOnly(full, 4, "write(0, 499, 1)", y -> y.write(0, 499, 1), "clientOf(0, 2)", 61, "count(5)", 1);
            edges.countsOnly(full, 1, "write(1, 60, 1), no cache", y -> y.write(1, 60, 1), "clientOf(1, 2)", 1, "count(2)", 1);
            edges.refused(full, -1, "write(0, 60, 0)", y -> y.write(0, 60, 0));
            x = Edges.made(full);
            due.is("span(0, 5): it is not frozen", x.span(0, 5), 0);
            due.is("look(10)", x.look(10), 0);
            due.is("the first of the trail", x.write(0, 0, 5), 0);
            due.is("the last of the trail", x.write(0, 59, 5), 0);
            due.is("trail", x.moveOf(0, 6), 60);
            due.is("trail(0, 60)", x.trail(0, 60), -1);
            due.is("beside its span", x.write(0, 500, 5), 0);
            due.is("a read", x.read(0, 60), 0);
        }
        SpanMap x = Edges.made(trail(2, 60));
        x.step(0, 1);
        due.is("four went", x.moveOf(0, 6), 56);
        for (int key = 60; key < 64; key++) {
            due.is("write " + key, x.write(0, key, 1), 0);
        }
        due.is("full again", x.write(0, 64, 1), 4);
        due.is("one that went is not in it", x.write(0, 0, 1), 4);
        due.is("trail(0, 59)", x.trail(0, 59), 63);
    }

    /** Terms 2: "(All this also as it is BROKEN.)" */
    private static void sixtyKeysWhileBroken() {
        SpanMap x = Edges.made(trail(1, 58));
        x.fail(0, 1);
        x.step(0, 1);
        due.is("broken", x.moveOf(0, 7), 1);
        due.is("the 59th", x.write(0, 58, 1), 0);
        due.is("the 60th", x.write(0, 59, 1), 0);
        due.is("moveOf(0, 6)", x.moveOf(0, 6), 60);
        due.is("the 61st", x.write(0, 60, 1), 4);
        due.is("one that is in it", x.write(0, 59, 2), 0);
        x.down(1);
        due.is("TO is down: the 61st", x.write(0, 60, 1), 4);
        x.up(1);
        x.recover(0);
        due.is("undone: the write is done", x.write(0, 60, 1), 0);
        x = Edges.made(Edges.moving(3, true));
        due.is("frozen and broken", x.write(0, 150, 1), 4);
        due.is("span(1, 5)", x.span(1, 5), 1);
    }

    /** Terms 2: the full TRAIL holds for insist() and a script's write as for write(). */
    private static void sixtyKeysByInsistAndScript() {
        Edges.Run full = trail(1, 60);
        edges.countsOnly(full, 4, "insist(0, 60, 1)", x -> x.insist(0, 60, 1), "clientOf(0, 2)", 61, "count(5)", 1);
        SpanMap x = Edges.made(full);
        due.is("a script", Due.run(x, "write 0 59 7;write 0 60 7;age;"), 1);
        due.is("fault(2)", x.fault(2), 1);
        due.is("count(5)", x.count(5), 1);
        due.is("moveOf(0, 6)", x.moveOf(0, 6), 60);
        x = Edges.made(trail(2, 59));
        x.split(500, 600);
        due.is("insist() that fetches: the 60th", x.insist(0, 60, 1), 0);
        due.is("trail(0, 59)", x.trail(0, 59), 60);
    }

    /** Terms 2: "CHUNK is 4 at first, 1 .. 16 may be told". */
    private static void chunks() {
        due.is("look(6) at first", new SpanMap().look(6), 4);
        for (int n = 1; n <= 16; n++) {
            SpanMap x = new SpanMap();
            due.is("chunk(" + n + ")", x.chunk(n), true);
            due.is("look(6)", x.look(6), n);
            x.split(0, 500);
            x.fetch(0);
            for (int key = 0; key < 20; key++) {
                x.write(0, key, 1);
            }
            x.move(0, 1);
            due.is("step(0, 1)", x.step(0, 1), 1);
            due.is("keys copied", x.server(1, 2), n);
            due.is("cursor", x.moveOf(0, 5), n);
        }
        for (int n : Edges.outside(1, 16)) {
            edges.refused(RICH, 0, "chunk(" + n + ")", x -> Edges.n(x.chunk(n)));
        }
    }
}
