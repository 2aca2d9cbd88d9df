/** Terms, part 3 (owned, sound, even, next, rounds, emptied, cuts, scan): each sentence that names a boundary. */
public final class EdgesOfTerms3Test {
    private static final Due due = new Due("EdgesOfTerms3Test");
    private static final Edges edges = new Edges(due);
    private static final Edges.Run RICH = Edges::rich;

    public static void main(String[] args) {
        ownedAtEachEpoch();
        ownedFromLowToEnd();
        soundInEachStage();
        evenOfThoseUp();
        nextOfEvenNone();
        nextOfFewerThanTwoUp();
        nextMovesLessThanEven();
        nextMovesNoWeightless();
        nextMovesTheBest();
        nextOfSeveralTheLeastLow();
        nextFromTheHeaviestUp();
        nextToTheLightestUp();
        nextPassesMovesBy();
        nextSplitsTheHeaviest();
        nextSplitsOneWithAMiddle();
        nextWith32Spans();
        roundsTillEven();
        roundsTillNothing();
        roundsPassMovesBy();
        atMostFortyRounds();
        emptiedByWeight();
        emptiedOfSeveralAlike();
        emptiedOfNone();
        emptiedWithoutAnother();
        emptiedPassesMovesBy();
        cutsByWeight();
        cutsOfOneKeyAlone();
        cutsOfEachSpan();
        cutsAside();
        scanOneByOne();
        scanOf61Keys();
        nothingIsDoneInThought();
        due.end();
    }

    /**
     * Spans of ten keys from 0 on (the last one to 1000), each with a weight at its sixth key, and a server; of n
     * servers that are up, the least ones.
     */
    private static SpanMap loads(int up, int... weightsAndServers) {
        SpanMap x = new SpanMap();
        int spans = weightsAndServers.length / 2;
        for (int i = 1; i < spans; i++) {
            x.split((i - 1) * 10, i * 10);
        }
        x.fetch(0);
        for (int i = 0; i < spans; i++) {
            for (int times = 0; times < weightsAndServers[i * 2]; times++) {
                x.read(0, i * 10 + 5);
            }
        }
        for (int i = 0; i < spans; i++) {
            if (weightsAndServers[i * 2 + 1] > 0) {
                x.step(x.move(i * 10, weightsAndServers[i * 2 + 1]), 100);
            }
        }
        for (int server = up; server < 6; server++) {
            x.down(server);
        }
        return x;
    }

    private static void nextIs(SpanMap x, int what, int low, int target) {
        due.is("next(0)", x.next(0), what);
        due.is("next(1)", x.next(1), low);
        due.is("next(2)", x.next(2), target);
    }

    /** Terms 3: "OWNED: of each EPOCH and KEY: the OWNER that its SPAN had when THE MAP had that EPOCH." */
    private static void ownedAtEachEpoch() {
        SpanMap x = new SpanMap();
        x.split(0, 500);        // 2
        x.move(0, 5);
        x.step(0, 100);         // 3
        x.split(0, 250);        // 4
        x.move(0, 0);
        x.step(1, 100);         // 5
        x.move(0, 3);
        x.step(2, 2);
        int[] owners = {-1, 0, 0, 5, 5, 0, -1};
        for (int epoch = 0; epoch < owners.length; epoch++) {
            due.is("owned(" + epoch + ", 0)", x.owned(epoch, 0), owners[epoch]);
        }
        x.step(2, 1);
        due.is("owned(5, 0) stays", x.owned(5, 0), 0);
        due.is("owned(6, 0)", x.owned(6, 0), 3);
        due.is("owned(7, 0)", x.owned(7, 0), -1);
        for (int epoch : Edges.outside(1, 6)) {
            due.is("owned(" + epoch + ", 0)", x.owned(epoch, 0), -1);
            due.is("changeOf(" + epoch + ", 0)", x.changeOf(epoch, 0), -1);
        }
        x.undo();
        due.is("owned(6, 0), the step undone", x.owned(6, 0), -1);
    }

    /** Terms 3: OWNED by its SPAN: from the LOW to the KEY ahead of the end, as the SPAN was then. */
    private static void ownedFromLowToEnd() {
        SpanMap x = new SpanMap();
        x.split(0, 100);
        x.split(100, 200);
        x.move(100, 4);
        x.step(0, 100);         // 4
        x.split(100, 150);      // 5
        int[] keys = {0, 99, 100, 149, 150, 199, 200, 999};
        int[] owners = {0, 0, 4, 4, 4, 4, 0, 0};
        for (int i = 0; i < keys.length; i++) {
            due.is("owned(3, " + keys[i] + ")", x.owned(3, keys[i]), 0);
            due.is("owned(4, " + keys[i] + ")", x.owned(4, keys[i]), owners[i]);
            due.is("owned(5, " + keys[i] + ")", x.owned(5, keys[i]), owners[i]);
            due.is("passed(" + keys[i] + ", 0)", x.passed(keys[i], 0), owners[i] == 4 ? 4 : -1);
            due.is("passed(" + keys[i] + ", 1)", x.passed(keys[i], 1), -1);
        }
    }

    /** Terms 3: SOUND: in each STAGE values are with the OWNER, or with FROM or TO of the MOVE; beside these there is none. */
    private static void soundInEachStage() {
        int[] spares = {0, 5, 5, 5};
        int[] broken = {2, 5, 5, 3};
        for (int stage = 1; stage <= 4; stage++) {
            SpanMap x = Edges.made(Edges.moving(stage, false));
            due.is("sound() in " + stage, x.sound(), 1);
            due.is("spare() in " + stage, x.spare(), spares[stage - 1]);
            x = Edges.made(Edges.moving(stage, true));
            due.is("sound() in " + stage + ", broken", x.sound(), 1);
            due.is("spare() in " + stage + ", broken", x.spare(), broken[stage - 1]);
            x.down(0);
            x.down(1);
            due.is("sound() in " + stage + ", both down", x.sound(), 1);
            x.up(0);
            x.up(1);
            x.recover(0);
            due.is("sound() then", x.sound(), 1);
            due.is("spare() then", x.spare(), 0);
        }
    }

    /** Terms 3: "EVEN: how far the SERVERS that are UP differ: the greatest WEIGHT less the least." */
    private static void evenOfThoseUp() {
        due.is("of six", loads(6, 7, 0, 4, 1, 3, 2).even(), 7);
        due.is("of three", loads(3, 7, 0, 4, 1, 3, 2).even(), 4);
        due.is("of two", loads(2, 7, 0, 4, 1, 3, 2).even(), 3);
        due.is("of two alike", loads(2, 4, 0, 4, 1, 3, 2).even(), 0);
        due.is("of one", loads(1, 7, 0, 4, 1, 3, 2).even(), 0);
        due.is("of none", loads(0, 7, 0, 4, 1, 3, 2).even(), -1);
        SpanMap x = loads(3, 7, 0, 4, 1, 3, 2);
        x.down(0);
        due.is("the greatest is down", x.even(), 1);
        x.up(0);
        x.down(2);
        due.is("the least is down", x.even(), 3);
        due.is("without weight", new SpanMap().even(), 0);
    }

    /** Terms 3: "NEXT: is EVEN 0 .. nothing (0)." */
    private static void nextOfEvenNone() {
        nextIs(new SpanMap(), 0, -1, -1);
        nextIs(loads(2, 3, 0, 3, 1), 0, -1, -1);
        nextIs(loads(2, 4, 0, 3, 1), 2, 0, 6);
        due.is("rounds(0) of even 0", loads(2, 3, 0, 3, 1).rounds(0), 0);
    }

    /** Terms 3: NEXT: "are fewer than two UP: nothing (0)". */
    private static void nextOfFewerThanTwoUp() {
        nextIs(loads(0, 3, 0, 1, 0), 0, -1, -1);
        nextIs(loads(1, 3, 0, 1, 0), 0, -1, -1);
        nextIs(loads(2, 3, 0, 1, 0), 1, 0, 1);
        due.is("rounds(0), none up", loads(0, 3, 0, 1, 0).rounds(0), 0);
        due.is("rounds(0), one up", loads(1, 3, 0, 1, 0).rounds(0), 0);
    }

    /** Terms 3: NEXT: a SPAN "with WEIGHT .. less than EVEN": as much as EVEN is not. */
    private static void nextMovesLessThanEven() {
        // 6 and 2: EVEN is 4 with 4 on server 1.
        nextIs(loads(2, 6, 0, 2, 0, 4, 1), 1, 10, 1);
        // 5 and 3: EVEN is 5 with 3 on server 1; 5 is no less than that.
        nextIs(loads(2, 5, 0, 3, 0, 3, 1), 1, 10, 1);
        // 4 and 1: EVEN is 5; both would leave 3.
        nextIs(loads(2, 4, 0, 1, 0), 1, 0, 1);
        // 4 and 4: EVEN is 4 with 4 on server 1: none is less.
        nextIs(loads(2, 4, 0, 4, 0, 4, 1), 2, 0, 6);
        // One more beside them: EVEN is 5.
        nextIs(loads(2, 4, 0, 4, 0, 4, 1, 1, 0), 1, 0, 1);
        // All of it is in one span: as much as EVEN.
        nextIs(loads(6, 4, 0), 2, 0, 6);
    }

    /** Terms 3: NEXT: a SPAN "with WEIGHT above 0". */
    private static void nextMovesNoWeightless() {
        nextIs(loads(6, 0, 0, 4, 0), 2, 10, 16);
        nextIs(loads(6, 0, 0, 4, 0, 1, 0), 1, 10, 1);
        nextIs(loads(2, 0, 0, 4, 0, 3, 0, 7, 1), 0, -1, -1);
        nextIs(loads(2, 0, 0, 4, 0, 4, 0, 7, 1), 2, 10, 16);
        nextIs(loads(2, 0, 0, 1, 0, 8, 0, 7, 1), 1, 10, 1);
    }

    /** Terms 3: NEXT: "the one by which EVEN of these two alone would be least". */
    private static void nextMovesTheBest() {
        // 10: 1 leaves 8, 5 leaves 0, 4 leaves 2.
        nextIs(loads(6, 1, 0, 5, 0, 4, 0), 1, 10, 1);
        // 10 and 2: 7 leaves 6, 3 leaves 2; the others, which have none, are not looked at once HIGH and DEEP are known.
        nextIs(loads(2, 7, 0, 3, 0, 2, 1), 1, 10, 1);
        nextIs(loads(3, 7, 0, 3, 0, 2, 1), 1, 0, 2);
    }

    /** Terms 3: NEXT: "of several the least LOW". */
    private static void nextOfSeveralTheLeastLow() {
        nextIs(loads(6, 2, 0, 2, 0), 1, 0, 1);
        nextIs(loads(6, 6, 0, 4, 0), 1, 0, 1);
        nextIs(loads(6, 4, 0, 6, 0), 1, 0, 1);
        nextIs(loads(6, 0, 0, 4, 0, 6, 0), 1, 10, 1);
        // 9: 4 and 5 leave 1 each.
        nextIs(loads(6, 0, 0, 0, 0, 5, 0, 4, 0), 1, 20, 1);
    }

    /** Terms 3: NEXT: "from HIGH (the heaviest that is UP, of several the least)". */
    private static void nextFromTheHeaviestUp() {
        nextIs(loads(6, 3, 2, 3, 1, 0, 0), 2, 10, 16);
        nextIs(loads(6, 4, 2, 3, 1, 0, 0), 2, 0, 6);
        SpanMap x = loads(6, 9, 0, 2, 1, 1, 1);
        x.down(0);
        nextIs(x, 1, 10, 2);
        x.up(0);
        nextIs(x, 2, 0, 6);
    }

    /** Terms 3: NEXT: "to DEEP (the lightest that is UP, likewise)". */
    private static void nextToTheLightestUp() {
        nextIs(loads(6, 2, 0, 2, 0), 1, 0, 1);
        nextIs(loads(6, 2, 5, 2, 5, 0, 0), 1, 0, 0);
        nextIs(loads(6, 3, 0, 3, 0, 1, 1), 1, 0, 2);
        SpanMap x = loads(6, 2, 0, 2, 0);
        x.down(1);
        x.down(2);
        nextIs(x, 1, 0, 3);
        x.up(2);
        nextIs(x, 1, 0, 2);
    }

    /** Terms 3: NEXT: "without a MOVE going on", in each STAGE, BROKEN or not; one that has ended is none. */
    private static void nextPassesMovesBy() {
        SpanMap x = loads(2, 4, 0, 2, 0, 2, 0);
        nextIs(x, 1, 0, 1);
        x.move(0, 1);
        nextIs(x, 1, 10, 1);
        x.fail(0, 1);
        x.step(0, 1);
        nextIs(x, 1, 10, 1);
        x.recover(0);
        nextIs(x, 1, 0, 1);
        x.move(0, 1);
        x.step(1, 3);
        nextIs(x, 0, -1, -1);
        due.is("even()", x.even(), 0);
        x.read(0, 15);
        x.insist(0, 5, 1);
        due.is("even(): 4 + 2 on 1", x.even(), 1);
        nextIs(x, 0, -1, -1);
        x.step(1, 1);
        nextIs(x, 2, 0, 6);
    }

    /** Terms 3: NEXT: "is there none: of those without a MOVE the heaviest (of several the least LOW)": SPLIT it. */
    private static void nextSplitsTheHeaviest() {
        nextIs(loads(2, 4, 0, 5, 0, 6, 1), 2, 10, 16);
        nextIs(loads(2, 5, 0, 5, 0, 6, 1), 2, 0, 6);
        nextIs(loads(2, 5, 0, 4, 0, 6, 1), 2, 0, 6);
        SpanMap x = loads(2, 5, 0, 4, 0, 6, 1);
        int last = x.look(3);
        due.is("move(0, 1)", x.move(0, 1), last);
        nextIs(x, 2, 10, 16);
        x.move(10, 1);
        nextIs(x, 0, -1, -1);
    }

    /** Terms 3: NEXT: "that has a MIDDLE": one that has none is passed by; if none has one: nothing. */
    private static void nextSplitsOneWithAMiddle() {
        SpanMap x = loads(2, 0, 0, 4, 0, 6, 1);
        for (int i = 0; i < 5; i++) {
            x.insist(0, 9, 1);
        }
        due.is("weight(0)", x.weight(0), 10);
        due.is("middleOf(0), all at the last key", x.middleOf(0), -1);
        due.is("even(): 14 and 6", x.even(), 8);
        nextIs(x, 1, 10, 1);
        x = loads(2, 0, 0, 2, 0, 6, 1);
        for (int i = 0; i < 3; i++) {
            x.insist(0, 9, 1);
        }
        due.is("even(): 8 and 6", x.even(), 2);
        nextIs(x, 2, 10, 16);
        x = new SpanMap();
        x.fetch(0);
        x.read(0, 999);
        nextIs(x, 0, -1, -1);
        due.is("even()", x.even(), 1);
        due.is("rounds(0)", x.rounds(0), 0);
    }

    /** Terms 3: NEXT: "(with 32 SPANS: of none)"; to MOVE one is no less possible. */
    private static void nextWith32Spans() {
        SpanMap x = new SpanMap();
        x.fetch(0);
        x.read(0, 500);
        for (int i = 1; i < 31; i++) {
            x.split(i - 1, i);
        }
        nextIs(x, 2, 30, 501);
        due.is("rounds(0) with 31: split it, and then nothing", x.rounds(0), 1);
        x.split(30, 31);
        due.is("look(1)", x.look(1), 32);
        nextIs(x, 0, -1, -1);
        due.is("rounds(0) with 32", x.rounds(0), 0);
        x.join(0);
        nextIs(x, 2, 31, 501);
        x.split(0, 1);
        nextIs(x, 0, -1, -1);
        x.insist(0, 3, 1);
        nextIs(x, 1, 3, 1);
    }

    /** Terms 3: ROUNDS: "till .. EVEN is no more than told". */
    private static void roundsTillEven() {
        SpanMap x = loads(6, 8, 0, 6, 0, 4, 0, 2, 0);
        due.is("even()", x.even(), 20);
        due.is("rounds(20), as told", x.rounds(20), 0);
        due.is("rounds(21)", x.rounds(21), 0);
        due.is("rounds(19)", x.rounds(19), 1);
        due.is("rounds(12), 8 went: 12, 8 and 0", x.rounds(12), 1);
        due.is("rounds(11)", x.rounds(11), 2);
        due.is("rounds(8), 6 went: 6, 8, 6 and 0", x.rounds(8), 2);
        due.is("rounds(7): 8 is split in vain, then nothing", x.rounds(7), 3);
        due.is("rounds(0)", x.rounds(0), 3);
    }

    /** Terms 3: ROUNDS: "till there is nothing", though EVEN is more than told. */
    private static void roundsTillNothing() {
        SpanMap x = new SpanMap();
        x.fetch(0);
        x.read(0, 999);
        x.read(0, 999);
        due.is("even()", x.even(), 2);
        due.is("rounds(0): nothing at once", x.rounds(0), 0);
        x = new SpanMap();
        x.fetch(0);
        x.read(0, 500);
        due.is("rounds(0): split, then nothing", x.rounds(0), 1);
        due.is("rounds(1)", x.rounds(1), 0);
        x = loads(2, 2, 0, 2, 0);
        due.is("rounds(0): one move, then EVEN is 0", x.rounds(0), 1);
        due.is("rounds(3)", x.rounds(3), 1);
        due.is("rounds(4)", x.rounds(4), 0);
    }

    /** Terms 3: ROUNDS: SPANS with a MOVE stay aside in all of them, also behind one that is SPLIT in thought. */
    private static void roundsPassMovesBy() {
        SpanMap x = loads(2, 0, 0, 1, 0, 0, 0);
        x.move(10, 1);
        for (int times = 0; times < 3; times++) {
            x.read(0, 2);
            x.read(0, 5);
        }
        due.is("weight(0), 3 at 2 and 3 at 5", x.weight(0), 6);
        // 6 goes to 1; there it is split at 3; one half goes back: 4 and 3; 1 can't go, it moves already.
        due.is("rounds(0)", x.rounds(0), 3);
        x.give(0);
        due.is("rounds(0), it moves no more: it is split in vain", x.rounds(0), 4);
    }

    /** Terms 3: ROUNDS "at most 40": 40 are told, of more NONE. */
    private static void atMostFortyRounds() {
        SpanMap x = new SpanMap();
        SpanMap more = new SpanMap();
        Plain plain = new Plain();
        Plain plainMore = new Plain();
        x.fetch(0);
        more.fetch(0);
        plain.fetch(0);
        plainMore.fetch(0);
        for (int key = 0; key < 69 * 3; key += 3) {
            x.read(0, key);
            plain.read(0, key);
            for (int times = 0; times <= key % 2; times++) {
                more.read(0, key);
                plainMore.read(0, key);
            }
        }
        due.is("it takes 40", x.rounds(0), 40);
        due.is("it takes 40, plainly", plain.rounds(0), 40);
        due.is("it takes more", more.rounds(0), -1);
        due.is("it takes more, plainly", plainMore.rounds(0), -1);
        due.is("till it is no more than told, fewer", more.rounds(60) > 0, true);
    }

    private static void emptiedIs(SpanMap x, int server, int gone, int even, int first) {
        due.is("emptied(" + server + ", 0)", x.emptied(server, 0), gone);
        due.is("emptied(" + server + ", 1)", x.emptied(server, 1), even);
        due.is("emptied(" + server + ", 2)", x.emptied(server, 2), first);
    }

    /** Terms 3: EMPTIED: "the heaviest first .. to the SERVER that is UP, another one, and lightest then". */
    private static void emptiedByWeight() {
        emptiedIs(loads(3, 1, 0, 1, 0, 2, 0), 0, 3, 0, 1);
        emptiedIs(loads(3, 2, 0, 1, 0, 1, 0), 0, 3, 0, 1);
        emptiedIs(loads(3, 1, 0, 5, 1, 2, 0), 0, 2, 2, 2);
        emptiedIs(loads(6, 3, 0), 0, 1, 3, 1);
        emptiedIs(loads(2, 3, 0, 4, 0), 0, 2, 0, 1);
        emptiedIs(loads(2, 3, 1, 4, 1, 0, 0), 1, 2, 0, 0);
    }

    /** Terms 3: EMPTIED: "(of several the least LOW)", "(of several the least)". */
    private static void emptiedOfSeveralAlike() {
        emptiedIs(loads(3, 2, 0, 2, 0, 1, 0), 0, 3, 1, 1);
        SpanMap x = loads(6, 2, 0, 2, 0);
        emptiedIs(x, 0, 2, 2, 1);
        x.down(1);
        x.down(2);
        emptiedIs(x, 0, 2, 2, 3);
        emptiedIs(loads(6, 2, 3, 0, 0), 3, 1, 2, 0);
        // Spans without weight go, too.
        emptiedIs(loads(6, 0, 0, 0, 0, 0, 0), 0, 3, 0, 1);
    }

    /** Terms 3: EMPTIED of a SERVER that OWNS none: none goes, and the first goes nowhere. */
    private static void emptiedOfNone() {
        SpanMap x = loads(6, 3, 0, 4, 1);
        emptiedIs(x, 2, 0, 4, -1);
        emptiedIs(x, 1, 1, 4, 2);
        x.down(2);
        emptiedIs(x, 2, 0, 4, -1);
    }

    /** Terms 3 and promise 37: "another one": NONE if no other SERVER is UP, whether it is UP itself or not. */
    private static void emptiedWithoutAnother() {
        SpanMap one = loads(1, 3, 0, 4, 1);
        SpanMap none = loads(0, 3, 0, 4, 1);
        for (int what = -1; what < 4; what++) {
            due.is("emptied(0, " + what + "), it alone is up", one.emptied(0, what), -1);
            for (int server = 0; server < 6; server++) {
                due.is("emptied(" + server + ", " + what + "), none is up", none.emptied(server, what), -1);
            }
        }
        emptiedIs(one, 1, 1, 0, 0);
        emptiedIs(one, 5, 0, 0, -1);
    }

    /** Terms 3: EMPTIED: "its SPANS without a MOVE going on". */
    private static void emptiedPassesMovesBy() {
        SpanMap x = loads(2, 4, 0, 2, 0, 1, 0);
        x.move(0, 1);
        emptiedIs(x, 0, 2, 0, 1);
        x.step(0, 2);
        emptiedIs(x, 0, 2, 0, 1);
        x.step(0, 1);
        emptiedIs(x, 0, 2, 0, 1);
        emptiedIs(x, 1, 0, 0, -1);
        due.is("emptied(5, 1), of another that is down", x.emptied(5, 1), 1);
        x.step(0, 1);
        emptiedIs(x, 1, 1, 0, 0);
    }

    /** Terms 3: CUTS n: "as many as have n together at most". */
    private static void cutsByWeight() {
        SpanMap x = new SpanMap();
        due.is("cuts(0) of no weight", x.cuts(0), 0);
        x.fetch(0);
        x.scan(0, 0, 59);
        int[] n = {1, 2, 3, 7, 29, 30, 59, 60, 61, 999999, 1000000};
        int[] cuts = {59, 29, 19, 8, 2, 1, 1, 0, 0, 0, 0};
        for (int i = 0; i < n.length; i++) {
            due.is("cuts(" + n[i] + ")", x.cuts(n[i]), cuts[i]);
        }
        due.is("cuts(0): each alone, and the rest", x.cuts(0), 60);
    }

    /** Terms 3: CUTS n: "a KEY that has more alone is alone". */
    private static void cutsOfOneKeyAlone() {
        SpanMap x = new SpanMap();
        x.fetch(0);
        x.write(0, 10, 1);
        x.write(0, 10, 1);
        due.is("cuts(3): it, those below and those above", x.cuts(3), 2);
        due.is("cuts(4)", x.cuts(4), 0);
        x.read(0, 9);
        due.is("cuts(4): 1 and 4", x.cuts(4), 1);
        due.is("cuts(5)", x.cuts(5), 0);
        due.is("cuts(0): 9, 10, those below and those above", x.cuts(0), 3);
        x = new SpanMap();
        x.fetch(0);
        x.write(0, 0, 1);
        x.write(0, 999, 1);
        due.is("cuts(1): at both ends", x.cuts(1), 2);
        due.is("cuts(2)", x.cuts(2), 1);
        due.is("cuts(3)", x.cuts(3), 1);
        due.is("cuts(4)", x.cuts(4), 0);
    }

    /** Terms 3: CUTS: "of each SPAN by its KEYS": a SPAN that ends where one is due needs none. */
    private static void cutsOfEachSpan() {
        SpanMap x = new SpanMap();
        x.fetch(0);
        x.scan(0, 0, 59);
        x.split(0, 30);
        due.is("cuts(30)", x.cuts(30), 0);
        due.is("cuts(29)", x.cuts(29), 2);
        x.split(0, 1);
        due.is("cuts(29)", x.cuts(29), 1);
        due.is("cuts(1)", x.cuts(1), 28 + 29);
        due.is("cuts(0)", x.cuts(0), 28 + 30);
    }

    /** Terms 3: CUTS: "(MOVES, 32 aside)". */
    private static void cutsAside() {
        SpanMap x = new SpanMap();
        x.fetch(0);
        x.scan(0, 0, 59);
        x.move(0, 1);
        due.is("cuts(1), a move goes on, more than 32", x.cuts(1), 59);
        x.give(0);
        for (int i = 1; i < 32; i++) {
            x.split(i - 1, i);
        }
        due.is("cuts(1), there are 32 already", x.cuts(1), 28);
    }

    /** Terms 3: "SCAN by a CLIENT: KEYS from low to high, one by one, each READ .. until one is answered other than 0." */
    private static void scanOneByOne() {
        SpanMap x = new SpanMap();
        x.split(0, 100);
        x.split(100, 200);
        x.fetch(0);
        x.write(0, 99, 5);
        x.write(0, 100, 5);
        x.split(100, 150);
        due.is("scan(0, 98, 103)", x.scan(0, 98, 103), -4);
        due.is("two were read", x.count(0), 2);
        due.is("one was answered 3", x.count(4), 1);
        due.is("askings", x.clientOf(0, 2), 2 + 3);
        due.is("weight(0)", x.weight(0), 2 + 2);
        due.is("weight(1)", x.weight(1), 2);
        due.is("named", x.clientOf(0, 5), 4);
        due.is("scan(0, 98, 99)", x.scan(0, 98, 99), 1);
        due.is("scan(0, 99, 99)", x.scan(0, 99, 99), 1);
        due.is("scan(0, 100, 100)", x.scan(0, 100, 100), -4);
        x.down(0);
        due.is("scan(0, 98, 99), down", x.scan(0, 98, 99), -3);
        due.is("count(3)", x.count(3), 1);
        due.is("scan(1, 98, 99), no cache", x.scan(1, 98, 99), -2);
    }

    /** Terms 3 and promise 36: "(high 60 above low at most)", and no less than low. */
    private static void scanOf61Keys() {
        int[] lows = {0, 1, 500, 938, 939};
        for (int low : lows) {
            SpanMap x = new SpanMap();
            x.fetch(0);
            x.write(0, low, 1);
            x.write(0, low + 60, 1);
            due.is("scan(0, low, low + 60)", x.scan(0, low, low + 60), 2);
            due.is("count(0)", x.count(0), 61);
            due.is("scan(0, low, low + 59)", x.scan(0, low, low + 59), 1);
            due.is("scan(0, low, low)", x.scan(0, low, low), 1);
            due.is("count(0)", x.count(0), 61 + 60 + 1);
            due.is("scan(0, low, low + 61)", x.scan(0, low, low + 61), -10);
            due.is("scan(0, low, low - 1)", x.scan(0, low, low - 1), -10);
            due.is("count(0)", x.count(0), 61 + 60 + 1);
        }
        int[][] wrong = {{0, 61}, {1, 0}, {939, 1000}, {940, 1000}, {999, 1000}, {-1, 0}, {-1, 59}, {0, -1}, {999, 998},
            {Edges.LEAST, 0}, {0, Edges.GREATEST}, {Edges.GREATEST, Edges.LEAST}, {Edges.LEAST, Edges.GREATEST},
            {5, Edges.LEAST}, {Edges.GREATEST, Edges.GREATEST}, {Edges.LEAST, Edges.LEAST}};
        for (int[] keys : wrong) {
            String call = ", " + keys[0] + ", " + keys[1] + ")";
            edges.refused(RICH, -10, "scan(1" + call, x -> x.scan(1, keys[0], keys[1]));
            edges.refused(RICH, -10, "scan(2" + call, x -> x.scan(2, keys[0], keys[1]));
        }
    }

    /** Terms 3: EMPTIED, NEXT and ROUNDS are "in thought", CUTS and SOUND tell: none of them changes anything. */
    private static void nothingIsDoneInThought() {
        SpanMap x = Edges.made(RICH);
        long[] answers = {x.next(0), x.next(1), x.next(2), x.rounds(0), x.rounds(3), x.emptied(0, 1), x.cuts(1), x.sound(),
            x.even(), x.lasts(1)};
        edges.refused(RICH, answers[0], "next(0)", y -> y.next(0));
        edges.refused(RICH, answers[1], "next(1)", y -> y.next(1));
        edges.refused(RICH, answers[2], "next(2)", y -> y.next(2));
        edges.refused(RICH, answers[3], "rounds(0)", y -> y.rounds(0));
        edges.refused(RICH, answers[4], "rounds(3)", y -> y.rounds(3));
        edges.refused(RICH, answers[5], "emptied(0, 1)", y -> y.emptied(0, 1));
        edges.refused(RICH, answers[6], "cuts(1)", y -> y.cuts(1));
        edges.refused(RICH, answers[7], "sound()", y -> y.sound());
        edges.refused(RICH, answers[8], "even()", y -> y.even());
        edges.refused(RICH, answers[9], "lasts(1)", y -> y.lasts(1));
    }
}
