/**
 * A map of spans of keys to servers, with clients that may be stale, moves in
 * steps, scripts, acts undone and an image. The document is ../shared/DOC.md.
 */
public final class SpanMap {
    public static final int NONE = -1;

    private static final int KEYS = 1000;
    private static final int SERVERS = 6;
    private static final int CLIENTS = 6;
    private static final int ALL_UP = 63;
    private static final int MAX_SPANS = 32;
    private static final int MAX_VALUE = 99999;
    private static final int MAX_BOUND = 1000000;
    private static final int MAX_SCAN = 60;
    private static final int MAX_ROUNDS = 40;
    private static final int CANNOT_BE = NONE - 9;

    private static final int MAX_MOVES = 12;
    private static final int MAX_GOING_ON = 4;
    private static final int MAX_TRAIL = 60;
    private static final int MAX_STEPS = 100;
    private static final int MAX_TOLD = 99;
    private static final int FIRST_CHUNK = 4;
    private static final int MAX_CHUNK = 16;

    private static final int COPY = 1;
    private static final int CATCH_UP = 2;
    private static final int FROZEN = 3;
    private static final int SWITCHED = 4;
    private static final int DONE = 5;
    private static final int UNDONE = 6;

    private static final int FROM_WENT_DOWN = 1;
    private static final int TO_WENT_DOWN = 2;
    private static final int STEP_FAILED = 3;

    private static final int ANSWER_DONE = 0;
    private static final int ANSWER_NO_CACHE = 1;
    private static final int ANSWER_DOWN = 2;
    private static final int ANSWER_STALE = 3;
    private static final int ANSWER_FROZEN = 4;

    private static final int CHANGE_SPLIT = 1;
    private static final int CHANGE_JOINED = 2;
    private static final int CHANGE_SWITCHED = 3;
    // 512 calls can make some 1500 CHANGES (by scripts); rows beyond are not kept.
    private static final int MAX_EPOCHS = 2048;

    private static final int NEXT_NOTHING = 0;
    private static final int NEXT_MOVE = 1;
    private static final int NEXT_SPLIT = 2;

    private static final int COUNTS = 15;
    private static final int COUNT_READS = 0;
    private static final int COUNT_WRITES = 1;
    private static final int COUNT_ANSWERS = 1;
    private static final int COUNT_SPLITS = 6;
    private static final int COUNT_JOINS = 7;
    private static final int COUNT_MOVES = 8;
    private static final int COUNT_DONE = 9;
    private static final int COUNT_UNDONE = 10;
    private static final int COUNT_STEPS = 11;
    private static final int COUNT_FAILED = 12;
    private static final int COUNT_COPIED = 13;
    private static final int COUNT_CLEANED = 14;

    private static final int MAX_ACTS = 6;
    private static final int ACT_ROWS = MAX_ACTS + 1;

    private static final int MAX_TAPE = 400;
    private static final int FEED_BYTES = 20;
    private static final int MAX_CLAUSES = 40;
    private static final int MAX_NUMBERS = 3;
    private static final int FAULT_TEXT = 1;
    private static final int FAULT_NUMBER = 2;
    private static final int FAULT_CLAUSES = 3;

    private static final String VERBS =
        "fetch read write split middle join move step fail down up recover give age chunk ";
    private static final int[] VERB_NUMBERS = {1, 2, 3, 2, 1, 1, 2, 2, 2, 1, 1, 1, 1, 0, 1};
    private static final int VERB_FETCH = 0;
    private static final int VERB_READ = 1;
    private static final int VERB_WRITE = 2;
    private static final int VERB_SPLIT = 3;
    private static final int VERB_MIDDLE = 4;
    private static final int VERB_JOIN = 5;
    private static final int VERB_MOVE = 6;
    private static final int VERB_STEP = 7;
    private static final int VERB_FAIL = 8;
    private static final int VERB_DOWN = 9;
    private static final int VERB_UP = 10;
    private static final int VERB_RECOVER = 11;
    private static final int VERB_GIVE = 12;
    private static final int VERB_AGE = 13;
    private static final int VERB_CHUNK = 14;

    private final World world;
    private final Ledger ledger;
    private final Asking asking;
    private final Changes changes;
    private final Moving moving;
    private final Plan plan;
    private final Acts acts;
    private final Script tape;
    private World imageWorld;
    private Ledger imageLedger;
    private int refusedClause;

    public SpanMap() {
        World newWorld = new World();
        Ledger newLedger = new Ledger();
        Plan newPlan = new Plan();
        world = newWorld;
        ledger = newLedger;
        plan = newPlan;
        asking = new Asking(newWorld, newLedger);
        changes = new Changes(newWorld, newLedger, newPlan);
        moving = new Moving(newWorld, newLedger);
        acts = new Acts();
        tape = new Script();
        imageWorld = null;
        imageLedger = null;
        refusedClause = NONE;
    }

    // ---- clients

    public int fetch(int client) {
        int epoch = asking.takeMap(client);
        if (epoch != NONE) {
            acts.forget();
        }
        return epoch;
    }

    public int read(int client, int key) {
        int answer = asking.readKey(client, key);
        if (answer >= 0) {
            acts.forget();
        }
        return answer;
    }

    public int write(int client, int key, int value) {
        int answer = asking.writeKey(client, key, value);
        if (answer == ANSWER_DONE) {
            acts.forget();
        }
        return answer;
    }

    public int insist(int client, int key, int value) {
        int answer = asking.writeKey(client, key, value);
        if (answer == ANSWER_STALE) {
            asking.takeMap(client);
            acts.forget();
            answer = asking.writeKey(client, key, value);
        }
        if (answer == ANSWER_DONE) {
            acts.forget();
        }
        return answer;
    }

    public int scan(int client, int low, int high) {
        if (!isKey(low) || !isKey(high) || low > high || high - low > MAX_SCAN) {
            return CANNOT_BE;
        }
        int found = 0;
        for (int key = low; key <= high; key++) {
            int answer = asking.readKey(client, key);
            if (answer < 0) {
                return answer;
            }
            acts.forget();
            if (answer > 0) {
                found++;
            }
        }
        return found;
    }

    public int clientOf(int client, int what) {
        if (!isClient(client)) {
            return NONE;
        }
        switch (what) {
            case 0: return world.caches[client].epoch;
            case 1: return asking.staleSpans(client);
            case 2: return ledger.asked[client];
            case 3: return ledger.answered[client];
            case 4: return ledger.turnedAway[client];
            case 5: return ledger.named[client];
            default: return NONE;
        }
    }

    // ---- changes and moves

    public int split(int low, int key) {
        acts.save(world);
        return kept(changes.cutAt(low, key));
    }

    public int middle(int low) {
        acts.save(world);
        return kept(changes.cutInMiddle(low));
    }

    public int join(int low) {
        acts.save(world);
        return kept(changes.joinWithNext(low));
    }

    public int move(int low, int server) {
        acts.save(world);
        return kept(moving.begin(low, server));
    }

    public int step(int move, int n) {
        acts.save(world);
        return kept(moving.takeSteps(move, n));
    }

    public boolean fail(int move, int n) {
        boolean told = moving.tellToFail(move, n);
        if (told) {
            acts.forget();
        }
        return told;
    }

    public int down(int server) {
        int broken = moving.takeDown(server);
        if (broken != NONE) {
            acts.forget();
        }
        return broken;
    }

    public boolean up(int server) {
        boolean came = world.bringUp(server);
        if (came) {
            acts.forget();
        }
        return came;
    }

    public int recover(int move) {
        acts.save(world);
        return kept(moving.mend(move));
    }

    public boolean give(int move) {
        acts.save(world);
        boolean given = moving.giveUp(move);
        if (given) {
            acts.keep();
        }
        return given;
    }

    public long age() {
        acts.save(world);
        long total = world.halveWeights();
        acts.keep();
        return total;
    }

    public boolean chunk(int n) {
        boolean told = world.tellChunk(n);
        if (told) {
            acts.forget();
        }
        return told;
    }

    // ---- scripts, undoing, the image

    public int feed(int a, int b, int c, int d, int e) {
        if (tape.length > MAX_TAPE - FEED_BYTES) {
            return NONE;
        }
        tape.addFour(a);
        tape.addFour(b);
        tape.addFour(c);
        tape.addFour(d);
        tape.addFour(e);
        return tape.length;
    }

    public boolean end(int n) {
        if (n < 0 || n > tape.length) {
            return false;
        }
        tape.length = n;
        return true;
    }

    public int script() {
        refusedClause = NONE;
        tape.parse();
        tape.length = 0;
        if (tape.fault != 0) {
            return NONE;
        }
        acts.save(world);
        int done = 0;
        for (int i = 0; i < tape.clauses && refusedClause == NONE; i++) {
            if (runClause(tape.verbs[i], tape.numberOf(i, 0), tape.numberOf(i, 1), tape.numberOf(i, 2))) {
                done++;
            } else {
                refusedClause = i;
            }
        }
        if (done > 0) {
            acts.keep();
        }
        return done;
    }

    public int fault(int what) {
        switch (what) {
            case 0: return tape.fault;
            case 1: return tape.place;
            case 2: return refusedClause;
            default: return NONE;
        }
    }

    public int undo() {
        if (!acts.takeBack(world)) {
            return NONE;
        }
        return acts.count;
    }

    public boolean image(boolean taken) {
        if (taken) {
            takeImage();
            return true;
        }
        if (imageWorld == null || imageLedger == null) {
            return false;
        }
        world.copyFrom(imageWorld);
        ledger.copyFrom(imageLedger, imageWorld.map.epoch);
        acts.forget();
        return true;
    }

    // ---- what is

    public int span(int i, int what) {
        Table map = world.map;
        if (i == NONE) {
            return map.size;
        }
        if (!map.has(i)) {
            return NONE;
        }
        switch (what) {
            case 0: return map.lows[i];
            case 1: return map.endOf(i);
            case 2: return map.owners[i];
            case 3: return map.epochs[i];
            case 4: return world.moveAt(map.lows[i]);
            case 5: return world.isFrozen(map.lows[i]) ? 1 : 0;
            case 6: return world.valuesIn(map.owners[i], map.lows[i], map.endOf(i));
            default: return NONE;
        }
    }

    public long weight(int i) {
        if (!world.map.has(i)) {
            return NONE;
        }
        plan.take(world);
        return plan.weightOf(i);
    }

    public int middleOf(int i) {
        if (!world.map.has(i)) {
            return NONE;
        }
        plan.take(world);
        return plan.middleIn(i);
    }

    public int lowOf(int key) {
        if (!isKey(key)) {
            return NONE;
        }
        return world.map.lows[world.map.indexOf(key)];
    }

    public int server(int server, int what) {
        if (!isServer(server)) {
            return NONE;
        }
        switch (what) {
            case 0: return world.isUp(server) ? 1 : 0;
            case 1: return world.map.ownedBy(server);
            case 2: return world.valuesIn(server, 0, KEYS);
            case 3: return world.movesFrom(server);
            case 4: return world.movesTo(server);
            default: return NONE;
        }
    }

    public long load(int server) {
        if (!isServer(server)) {
            return NONE;
        }
        plan.take(world);
        return plan.loads[server];
    }

    public int stored(int server, int key) {
        if (!isServer(server) || !isKey(key)) {
            return NONE;
        }
        return world.valueOf(server, key);
    }

    public int moveOf(int move, int what) {
        if (!world.hasMove(move)) {
            return NONE;
        }
        Move m = world.moves[move];
        switch (what) {
            case 0: return m.stage;
            case 1: return m.low;
            case 2: return m.end;
            case 3: return m.from;
            case 4: return m.to;
            case 5: return m.cursor;
            case 6: return m.trailed;
            case 7: return m.broken ? 1 : 0;
            case 8: return m.cause;
            case 9: return m.steps;
            case 10: return m.told;
            case 11: return m.epoch;
            default: return NONE;
        }
    }

    public int trail(int move, int i) {
        if (!world.hasMove(move)) {
            return NONE;
        }
        Move m = world.moves[move];
        if (i < 0 || i >= m.trailed) {
            return NONE;
        }
        return m.trail[i];
    }

    public int owned(int epoch, int key) {
        if (epoch < 1 || epoch > world.map.epoch || !isKey(key)) {
            return NONE;
        }
        return world.ownerAt(epoch, key);
    }

    public int passed(int key, int i) {
        if (!isKey(key) || i < 0) {
            return NONE;
        }
        return world.passedOn(key, i);
    }

    public int changeOf(int epoch, int what) {
        if (epoch < 1 || epoch > world.map.epoch || epoch >= MAX_EPOCHS) {
            return NONE;
        }
        int kind = ledger.kindOf(epoch);
        switch (what) {
            case 0: return kind;
            case 1: return kind == 0 ? NONE : ledger.lowOfChange(epoch);
            case 2: return kind == 0 ? NONE : ledger.ownerOfChange(epoch);
            default: return NONE;
        }
    }

    public int count(int what) {
        if (what < 0 || what >= COUNTS) {
            return NONE;
        }
        return ledger.counts[what];
    }

    public int look(int what) {
        switch (what) {
            case 0: return world.map.epoch;
            case 1: return world.map.size;
            case 2: return world.up;
            case 3: return world.moveCount;
            case 4: return world.movesGoingOn();
            case 5: return world.movesBroken();
            case 6: return world.chunk;
            case 7: return acts.count;
            case 8: return tape.length;
            case 9: return world.valuesAtOwners();
            case 10: return world.spansFrozen();
            default: return NONE;
        }
    }

    // ---- what is sound, where the weight lies, what to do next

    public int sound() {
        return world.isSound() ? 1 : 0;
    }

    public int spare() {
        int all = 0;
        for (int server = 0; server < SERVERS; server++) {
            all += world.valuesIn(server, 0, KEYS);
        }
        return all - world.valuesAtOwners();
    }

    public int hot(int i, int what) {
        if (i < 0 || i >= KEYS || what < 0 || what > 1) {
            return NONE;
        }
        int weight = world.weightByRank(i);
        if (weight == 0) {
            return NONE;
        }
        if (what == 1) {
            return weight;
        }
        return world.keyOfWeight(weight, i - world.keysAbove(weight));
    }

    public int cuts(int n) {
        if (n < 0 || n > MAX_BOUND) {
            return NONE;
        }
        int splits = 0;
        for (int i = 0; i < world.map.size; i++) {
            splits += world.cutsWithin(world.map.lows[i], world.map.endOf(i), n);
        }
        return splits;
    }

    public long even() {
        plan.take(world);
        return plan.gap(NONE);
    }

    public int next(int what) {
        if (what < 0 || what > 2) {
            return NONE;
        }
        plan.take(world);
        plan.decide();
        if (what == 0) {
            return plan.kind;
        }
        if (plan.kind == NEXT_NOTHING) {
            return NONE;
        }
        return what == 1 ? plan.lows[plan.chosen] : plan.target;
    }

    public int rounds(int bound) {
        if (bound < 0 || bound > MAX_BOUND) {
            return NONE;
        }
        plan.take(world);
        for (int round = 0; round <= MAX_ROUNDS; round++) {
            plan.decide();
            if (plan.kind == NEXT_NOTHING || plan.gap(NONE) <= bound) {
                return round;
            }
            plan.carryOut();
        }
        return NONE;
    }

    public long emptied(int server, int what) {
        if (!isServer(server) || what < 0 || what > 2) {
            return NONE;
        }
        plan.take(world);
        if (plan.lightest(server) == NONE) {
            return NONE;
        }
        int first = NONE;
        int gone = 0;
        for (int i = plan.heaviestFree(server); i != NONE && gone < MAX_SPANS; i = plan.heaviestFree(server)) {
            int to = plan.lightest(server);
            if (gone == 0) {
                first = to;
            }
            plan.handTo(i, to);
            gone++;
        }
        switch (what) {
            case 0: return gone;
            case 1: return plan.gap(server);
            default: return first;
        }
    }

    public int lasts(int move) {
        if (!world.canStep(move)) {
            return NONE;
        }
        return moving.stepsLeft(world.moves[move]);
    }

    // ---- helpers of the face

    private int kept(int answer) {
        if (answer != NONE) {
            acts.keep();
        }
        return answer;
    }

    private void takeImage() {
        if (imageWorld == null) {
            imageWorld = new World();
        }
        if (imageLedger == null) {
            imageLedger = new Ledger();
        }
        imageWorld.copyFrom(world);
        imageLedger.copyFrom(ledger, world.map.epoch);
    }

    private boolean runClause(int verb, int a, int b, int c) {
        switch (verb) {
            case VERB_FETCH: return asking.takeMap(a) != NONE;
            case VERB_READ: return asking.readKey(a, b) >= 0;
            case VERB_WRITE: return asking.writeKey(a, b, c) == ANSWER_DONE;
            case VERB_SPLIT: return changes.cutAt(a, b) != NONE;
            case VERB_MIDDLE: return changes.cutInMiddle(a) != NONE;
            case VERB_JOIN: return changes.joinWithNext(a) != NONE;
            case VERB_MOVE: return moving.begin(a, b) != NONE;
            case VERB_STEP: return moving.takeSteps(a, b) != NONE;
            case VERB_FAIL: return moving.tellToFail(a, b);
            case VERB_DOWN: return moving.takeDown(a) != NONE;
            case VERB_UP: return world.bringUp(a);
            case VERB_RECOVER: return moving.mend(a) != NONE;
            case VERB_GIVE: return moving.giveUp(a);
            case VERB_AGE: return world.halveWeights() >= 0;
            case VERB_CHUNK: return world.tellChunk(a);
            default: return false;
        }
    }

    private static boolean isKey(int key) {
        return key >= 0 && key < KEYS;
    }

    private static boolean isServer(int server) {
        return server >= 0 && server < SERVERS;
    }

    private static boolean isClient(int client) {
        return client >= 0 && client < CLIENTS;
    }

    /** Spans by LOW with OWNER and EPOCH: THE MAP, or a CACHE (size 0: none). */
    private static final class Table {
        final int[] lows = new int[MAX_SPANS];
        final int[] owners = new int[MAX_SPANS];
        final int[] epochs = new int[MAX_SPANS];
        int size;
        int epoch;

        boolean has(int i) {
            return i >= 0 && i < size;
        }

        int endOf(int i) {
            return i + 1 < size ? lows[i + 1] : KEYS;
        }

        /** The span with a KEY; 0 if the table has none such. */
        int indexOf(int key) {
            for (int i = size - 1; i > 0; i--) {
                if (lows[i] <= key) {
                    return i;
                }
            }
            return 0;
        }

        int indexOfLow(int low) {
            for (int i = 0; i < size; i++) {
                if (lows[i] == low) {
                    return i;
                }
            }
            return NONE;
        }

        int ownedBy(int server) {
            int n = 0;
            for (int i = 0; i < size; i++) {
                if (owners[i] == server) {
                    n++;
                }
            }
            return n;
        }

        void put(int i, int low, int owner) {
            lows[i] = low;
            owners[i] = owner;
            epochs[i] = epoch;
        }

        void insertBehind(int i) {
            for (int k = size; k > i + 1; k--) {
                copyRow(k - 1, k);
            }
            size++;
        }

        void removeBehind(int i) {
            for (int k = i + 1; k < size - 1; k++) {
                copyRow(k + 1, k);
            }
            size--;
        }

        void copyRow(int from, int to) {
            lows[to] = lows[from];
            owners[to] = owners[from];
            epochs[to] = epochs[from];
        }

        void copyFrom(Table other) {
            size = other.size;
            epoch = other.epoch;
            System.arraycopy(other.lows, 0, lows, 0, size);
            System.arraycopy(other.owners, 0, owners, 0, size);
            System.arraycopy(other.epochs, 0, epochs, 0, size);
        }
    }

    /** A MOVE of a SPAN; the row is used again when the move was undone. */
    private static final class Move {
        final int[] trail = new int[MAX_TRAIL];
        int trailed;
        int stage;
        int low;
        int end;
        int from;
        int to;
        int cursor;
        boolean broken;
        int cause;
        int steps;
        int told;
        int epoch;

        void begin(int newLow, int newEnd, int newFrom, int newTo) {
            low = newLow;
            end = newEnd;
            from = newFrom;
            to = newTo;
            stage = COPY;
            cursor = newLow;
            trailed = 0;
            broken = false;
            cause = 0;
            steps = 0;
            told = 0;
            epoch = 0;
        }

        boolean goesOn() {
            return stage >= COPY && stage <= SWITCHED;
        }

        boolean covers(int key) {
            return key >= low && key < end;
        }

        boolean takesTrail() {
            return stage == COPY || stage == CATCH_UP;
        }

        boolean hasInTrail(int key) {
            for (int i = 0; i < trailed; i++) {
                if (trail[i] == key) {
                    return true;
                }
            }
            return false;
        }

        boolean refusesWrite(int key) {
            if (stage == FROZEN) {
                return true;
            }
            return takesTrail() && trailed >= MAX_TRAIL && !hasInTrail(key);
        }

        void noteWrite(int key) {
            if (takesTrail() && trailed < MAX_TRAIL && !hasInTrail(key)) {
                trail[trailed] = key;
                trailed++;
            }
        }

        void dropFromTrail(int n) {
            System.arraycopy(trail, n, trail, 0, trailed - n);
            trailed -= n;
        }

        /** Whether the STEP that is being taken is the one TOLD to fail. */
        boolean countDown() {
            if (told == 0) {
                return false;
            }
            told--;
            return told == 0;
        }

        void breakBy(int newCause) {
            broken = true;
            cause = newCause;
        }

        void copyFrom(Move other) {
            trailed = other.trailed;
            System.arraycopy(other.trail, 0, trail, 0, trailed);
            stage = other.stage;
            low = other.low;
            end = other.end;
            from = other.from;
            to = other.to;
            cursor = other.cursor;
            broken = other.broken;
            cause = other.cause;
            steps = other.steps;
            told = other.told;
            epoch = other.epoch;
        }
    }

    /** All that an ACT may change and undo() brings back. */
    private static final class World {
        final int[] values = new int[SERVERS * KEYS];
        final int[] weights = new int[KEYS];
        final Table map = new Table();
        final Table[] caches = new Table[CLIENTS];
        final Move[] moves = new Move[MAX_MOVES];
        int moveCount;
        int up;
        int chunk;

        World() {
            map.epoch = 1;
            map.size = 1;
            map.put(0, 0, 0);
            for (int client = 0; client < CLIENTS; client++) {
                caches[client] = new Table();
            }
            for (int i = 0; i < MAX_MOVES; i++) {
                moves[i] = new Move();
            }
            up = ALL_UP;
            chunk = FIRST_CHUNK;
        }

        void copyFrom(World other) {
            System.arraycopy(other.values, 0, values, 0, values.length);
            System.arraycopy(other.weights, 0, weights, 0, KEYS);
            map.copyFrom(other.map);
            for (int client = 0; client < CLIENTS; client++) {
                caches[client].copyFrom(other.caches[client]);
            }
            moveCount = other.moveCount;
            for (int i = 0; i < moveCount; i++) {
                moves[i].copyFrom(other.moves[i]);
            }
            up = other.up;
            chunk = other.chunk;
        }

        // -- servers and their stores

        boolean isUp(int server) {
            return (up >> server & 1) == 1;
        }

        boolean bringUp(int server) {
            if (!isServer(server) || isUp(server)) {
                return false;
            }
            up |= 1 << server;
            return true;
        }

        int valueOf(int server, int key) {
            return values[server * KEYS + key];
        }

        void putValue(int server, int key, int value) {
            values[server * KEYS + key] = value;
        }

        void loseValues(int server, int low, int end) {
            for (int key = low; key < end; key++) {
                putValue(server, key, 0);
            }
        }

        int valuesIn(int server, int low, int end) {
            int n = 0;
            for (int at = server * KEYS + low; at < server * KEYS + end; at++) {
                if (values[at] != 0) {
                    n++;
                }
            }
            return n;
        }

        int valuesAtOwners() {
            int n = 0;
            for (int i = 0; i < map.size; i++) {
                n += valuesIn(map.owners[i], map.lows[i], map.endOf(i));
            }
            return n;
        }

        boolean isSound() {
            for (int i = 0; i < map.size; i++) {
                int move = moveAt(map.lows[i]);
                for (int server = 0; server < SERVERS; server++) {
                    boolean belongs = server == map.owners[i]
                        || move != NONE && (server == moves[move].from || server == moves[move].to);
                    if (!belongs && valuesIn(server, map.lows[i], map.endOf(i)) > 0) {
                        return false;
                    }
                }
            }
            return true;
        }

        // -- moves

        boolean hasMove(int move) {
            return move >= 0 && move < moveCount;
        }

        /** A span with a MOVE can't be changed, so that its LOW names it. */
        int moveAt(int low) {
            for (int i = 0; i < moveCount; i++) {
                if (moves[i].low == low && moves[i].goesOn()) {
                    return i;
                }
            }
            return NONE;
        }

        boolean isFrozen(int low) {
            int move = moveAt(low);
            return move != NONE && moves[move].stage == FROZEN;
        }

        int spansFrozen() {
            int n = 0;
            for (int i = 0; i < map.size; i++) {
                if (isFrozen(map.lows[i])) {
                    n++;
                }
            }
            return n;
        }

        boolean canStep(int move) {
            return hasMove(move) && moves[move].goesOn() && !moves[move].broken && bothUp(moves[move]);
        }

        boolean bothUp(Move m) {
            return isUp(m.from) && isUp(m.to);
        }

        int movesFrom(int server) {
            int n = 0;
            for (int i = 0; i < moveCount; i++) {
                if (moves[i].goesOn() && moves[i].from == server) {
                    n++;
                }
            }
            return n;
        }

        int movesTo(int server) {
            int n = 0;
            for (int i = 0; i < moveCount; i++) {
                if (moves[i].goesOn() && moves[i].to == server) {
                    n++;
                }
            }
            return n;
        }

        int movesGoingOn() {
            int n = 0;
            for (int i = 0; i < moveCount; i++) {
                if (moves[i].goesOn()) {
                    n++;
                }
            }
            return n;
        }

        int movesBroken() {
            int n = 0;
            for (int i = 0; i < moveCount; i++) {
                if (moves[i].broken) {
                    n++;
                }
            }
            return n;
        }

        boolean tellChunk(int n) {
            if (n < 1 || n > MAX_CHUNK) {
                return false;
            }
            chunk = n;
            return true;
        }

        // -- who owned what: only MOVES pass a KEY on, and those of one KEY one
        // behind the other, so that they are its history in the order of their numbers

        int passedOn(int key, int times) {
            int ahead = 0;
            for (int i = 0; i < moveCount; i++) {
                if (moves[i].epoch > 0 && moves[i].covers(key)) {
                    if (ahead == times) {
                        return moves[i].epoch;
                    }
                    ahead++;
                }
            }
            return NONE;
        }

        int ownerAt(int epoch, int key) {
            int owner = 0;
            for (int i = 0; i < moveCount; i++) {
                Move m = moves[i];
                if (m.epoch > 0 && m.epoch <= epoch && m.covers(key)) {
                    owner = m.to;
                }
            }
            return owner;
        }

        // -- weights

        long halveWeights() {
            long total = 0;
            for (int key = 0; key < KEYS; key++) {
                weights[key] /= 2;
                total += weights[key];
            }
            return total;
        }

        int keysAbove(int weight) {
            int n = 0;
            for (int key = 0; key < KEYS; key++) {
                if (weights[key] > weight) {
                    n++;
                }
            }
            return n;
        }

        int greatestWeight() {
            int greatest = 0;
            for (int key = 0; key < KEYS; key++) {
                greatest = Math.max(greatest, weights[key]);
            }
            return greatest;
        }

        /** The least weight that no more than rank KEYS exceed: halving spares a sorted row. */
        int weightByRank(int rank) {
            int low = 0;
            int high = greatestWeight();
            for (int turn = 0; turn < 32 && low < high; turn++) {
                int between = low + (high - low) / 2;
                if (keysAbove(between) <= rank) {
                    high = between;
                } else {
                    low = between + 1;
                }
            }
            return low;
        }

        int keyOfWeight(int weight, int rank) {
            int ahead = 0;
            for (int key = 0; key < KEYS; key++) {
                if (weights[key] == weight) {
                    if (ahead == rank) {
                        return key;
                    }
                    ahead++;
                }
            }
            return NONE;
        }

        int cutsWithin(int low, int end, int most) {
            int splits = 0;
            long sum = weights[low];
            for (int key = low + 1; key < end; key++) {
                if (sum + weights[key] > most) {
                    splits++;
                    sum = 0;
                }
                sum += weights[key];
            }
            return splits;
        }
    }

    /** What is counted, and THE CHANGES: undo() leaves it, THE IMAGE holds it. */
    private static final class Ledger {
        final int[] counts = new int[COUNTS];
        final int[] asked = new int[CLIENTS];
        final int[] answered = new int[CLIENTS];
        final int[] turnedAway = new int[CLIENTS];
        final int[] named = new int[CLIENTS];
        // By EPOCH: what is undone lies above the map's EPOCH and is written anew.
        final int[] rows = new int[MAX_EPOCHS];

        void add(int what, int n) {
            counts[what] += n;
        }

        void noteAnswer(int client, int answer, int doneCount, int epoch) {
            asked[client]++;
            if (answer == ANSWER_DONE) {
                answered[client]++;
                counts[doneCount]++;
                return;
            }
            counts[COUNT_ANSWERS + answer]++;
            if (answer == ANSWER_STALE) {
                turnedAway[client]++;
                named[client] = epoch;
            }
        }

        void noteChange(int epoch, int kind, int low, int owner) {
            if (epoch >= 0 && epoch < MAX_EPOCHS) {
                rows[epoch] = (low * SERVERS + owner) * 4 + kind;
            }
        }

        int kindOf(int epoch) {
            return rows[epoch] % 4;
        }

        int ownerOfChange(int epoch) {
            return rows[epoch] / 4 % SERVERS;
        }

        int lowOfChange(int epoch) {
            return rows[epoch] / 4 / SERVERS;
        }

        void copyFrom(Ledger other, int epoch) {
            System.arraycopy(other.counts, 0, counts, 0, COUNTS);
            System.arraycopy(other.asked, 0, asked, 0, CLIENTS);
            System.arraycopy(other.answered, 0, answered, 0, CLIENTS);
            System.arraycopy(other.turnedAway, 0, turnedAway, 0, CLIENTS);
            System.arraycopy(other.named, 0, named, 0, CLIENTS);
            System.arraycopy(other.rows, 0, rows, 0, Math.min(epoch + 1, MAX_EPOCHS));
        }
    }

    /** CLIENTS: FETCHING, READS and WRITES. */
    private static final class Asking {
        private final World world;
        private final Ledger ledger;

        Asking(World world, Ledger ledger) {
            this.world = world;
            this.ledger = ledger;
        }

        int takeMap(int client) {
            if (!isClient(client)) {
                return NONE;
            }
            world.caches[client].copyFrom(world.map);
            return world.map.epoch;
        }

        int readKey(int client, int key) {
            if (!isClient(client) || !isKey(key)) {
                return CANNOT_BE;
            }
            int span = world.map.indexOf(key);
            int answer = answerTo(client, key, false);
            ledger.noteAnswer(client, answer, COUNT_READS, world.map.epochs[span]);
            if (answer != ANSWER_DONE) {
                return NONE - answer;
            }
            world.weights[key]++;
            return world.valueOf(world.map.owners[span], key);
        }

        int writeKey(int client, int key, int value) {
            if (!isClient(client) || !isKey(key) || value < 1 || value > MAX_VALUE) {
                return NONE;
            }
            int span = world.map.indexOf(key);
            int answer = answerTo(client, key, true);
            ledger.noteAnswer(client, answer, COUNT_WRITES, world.map.epochs[span]);
            if (answer == ANSWER_DONE) {
                world.weights[key] += 2;
                world.putValue(world.map.owners[span], key, value);
                int move = world.moveAt(world.map.lows[span]);
                if (move != NONE) {
                    world.moves[move].noteWrite(key);
                }
            }
            return answer;
        }

        int staleSpans(int client) {
            Table cache = world.caches[client];
            int n = 0;
            for (int i = 0; i < cache.size; i++) {
                if (answerTo(client, cache.lows[i], false) == ANSWER_STALE) {
                    n++;
                }
            }
            return n;
        }

        private int answerTo(int client, int key, boolean writing) {
            Table cache = world.caches[client];
            if (cache.size == 0) {
                return ANSWER_NO_CACHE;
            }
            int cached = cache.indexOf(key);
            if (!world.isUp(cache.owners[cached])) {
                return ANSWER_DOWN;
            }
            int span = world.map.indexOf(key);
            if (cache.owners[cached] != world.map.owners[span] || cache.epochs[cached] != world.map.epochs[span]) {
                return ANSWER_STALE;
            }
            int move = world.moveAt(world.map.lows[span]);
            if (writing && move != NONE && world.moves[move].refusesWrite(key)) {
                return ANSWER_FROZEN;
            }
            return ANSWER_DONE;
        }
    }

    /** SPLITS and JOINS. */
    private static final class Changes {
        private final World world;
        private final Ledger ledger;
        private final Plan plan;

        Changes(World world, Ledger ledger, Plan plan) {
            this.world = world;
            this.ledger = ledger;
            this.plan = plan;
        }

        int cutAt(int low, int key) {
            Table map = world.map;
            int i = map.indexOfLow(low);
            if (i == NONE || key <= low || key >= map.endOf(i)) {
                return NONE;
            }
            if (map.size >= MAX_SPANS || world.moveAt(low) != NONE) {
                return NONE;
            }
            int owner = map.owners[i];
            map.epoch++;
            map.insertBehind(i);
            map.put(i, low, owner);
            map.put(i + 1, key, owner);
            ledger.add(COUNT_SPLITS, 1);
            ledger.noteChange(map.epoch, CHANGE_SPLIT, low, owner);
            return map.epoch;
        }

        int cutInMiddle(int low) {
            int i = world.map.indexOfLow(low);
            if (i == NONE) {
                return NONE;
            }
            plan.take(world);
            int key = plan.middleIn(i);
            if (key == NONE || cutAt(low, key) == NONE) {
                return NONE;
            }
            return key;
        }

        int joinWithNext(int low) {
            Table map = world.map;
            int i = map.indexOfLow(low);
            if (i == NONE || i + 1 >= map.size || map.owners[i] != map.owners[i + 1]) {
                return NONE;
            }
            if (world.moveAt(low) != NONE || world.moveAt(map.lows[i + 1]) != NONE) {
                return NONE;
            }
            int owner = map.owners[i];
            map.epoch++;
            map.removeBehind(i);
            map.put(i, low, owner);
            ledger.add(COUNT_JOINS, 1);
            ledger.noteChange(map.epoch, CHANGE_JOINED, low, owner);
            return map.epoch;
        }
    }

    /** MOVES: begun, stepped, broken, recovered, given up. */
    private static final class Moving {
        private final World world;
        private final Ledger ledger;

        Moving(World world, Ledger ledger) {
            this.world = world;
            this.ledger = ledger;
        }

        int begin(int low, int server) {
            Table map = world.map;
            int i = map.indexOfLow(low);
            if (i == NONE || !isServer(server) || server == map.owners[i]) {
                return NONE;
            }
            if (!world.isUp(server) || !world.isUp(map.owners[i]) || world.moveAt(low) != NONE) {
                return NONE;
            }
            if (world.moveCount >= MAX_MOVES || world.movesGoingOn() >= MAX_GOING_ON) {
                return NONE;
            }
            int number = world.moveCount;
            world.moves[number].begin(low, map.endOf(i), map.owners[i], server);
            world.moveCount++;
            ledger.add(COUNT_MOVES, 1);
            return number;
        }

        int takeSteps(int move, int n) {
            if (n < 1 || n > MAX_STEPS || !world.canStep(move)) {
                return NONE;
            }
            Move m = world.moves[move];
            for (int i = 0; i < n && m.goesOn() && !m.broken; i++) {
                takeOne(m);
            }
            return m.stage;
        }

        private void takeOne(Move m) {
            m.steps++;
            ledger.add(COUNT_STEPS, 1);
            boolean fails = m.countDown();
            int most = fails ? world.chunk / 2 : world.chunk;
            int done = 0;
            switch (m.stage) {
                case COPY: done = copySome(m, most); break;
                case CATCH_UP: catchUpSome(m, most); break;
                case SWITCHED: done = cleanSome(m, most); break;
                default: break;
            }
            if (fails) {
                m.breakBy(STEP_FAILED);
                ledger.add(COUNT_FAILED, 1);
            } else {
                goFurther(m, done < most);
            }
        }

        private void goFurther(Move m, boolean keysAtEnd) {
            if (m.stage == FROZEN) {
                switchOwner(m);
            } else if (m.stage == CATCH_UP) {
                if (m.trailed == 0) {
                    m.stage = FROZEN;
                }
            } else if (keysAtEnd) {
                m.cursor = m.end;
                if (m.stage == COPY) {
                    m.stage = CATCH_UP;
                } else {
                    endAs(m, DONE);
                }
            }
        }

        private int copySome(Move m, int most) {
            int done = 0;
            for (int key = m.cursor; key < m.end && done < most; key++) {
                int value = world.valueOf(m.from, key);
                if (value != 0) {
                    world.putValue(m.to, key, value);
                    m.cursor = key + 1;
                    done++;
                }
            }
            ledger.add(COUNT_COPIED, done);
            return done;
        }

        private void catchUpSome(Move m, int most) {
            int done = Math.min(most, m.trailed);
            for (int i = 0; i < done; i++) {
                world.putValue(m.to, m.trail[i], world.valueOf(m.from, m.trail[i]));
            }
            m.dropFromTrail(done);
            ledger.add(COUNT_COPIED, done);
        }

        private int cleanSome(Move m, int most) {
            int done = 0;
            for (int key = m.cursor; key < m.end && done < most; key++) {
                if (world.valueOf(m.from, key) != 0) {
                    world.putValue(m.from, key, 0);
                    m.cursor = key + 1;
                    done++;
                }
            }
            ledger.add(COUNT_CLEANED, done);
            return done;
        }

        private void switchOwner(Move m) {
            Table map = world.map;
            int i = map.indexOf(m.low);
            map.epoch++;
            map.put(i, m.low, m.to);
            ledger.noteChange(map.epoch, CHANGE_SWITCHED, m.low, m.to);
            m.epoch = map.epoch;
            m.stage = SWITCHED;
            m.cursor = m.low;
        }

        private void endAs(Move m, int stage) {
            m.stage = stage;
            ledger.add(stage == DONE ? COUNT_DONE : COUNT_UNDONE, 1);
        }

        boolean tellToFail(int move, int n) {
            if (n < 0 || n > MAX_TOLD || !world.hasMove(move) || !world.moves[move].goesOn()) {
                return false;
            }
            world.moves[move].told = n;
            return true;
        }

        int takeDown(int server) {
            if (!isServer(server) || !world.isUp(server)) {
                return NONE;
            }
            world.up &= ~(1 << server);
            int broken = 0;
            for (int i = 0; i < world.moveCount; i++) {
                Move m = world.moves[i];
                if (!m.goesOn() || m.from != server && m.to != server) {
                    continue;
                }
                if (m.from == server) {
                    m.trailed = 0;
                }
                if (!m.broken) {
                    m.breakBy(m.from == server ? FROM_WENT_DOWN : TO_WENT_DOWN);
                    broken++;
                }
            }
            return broken;
        }

        int mend(int move) {
            if (!world.hasMove(move) || !world.moves[move].broken || !world.bothUp(world.moves[move])) {
                return NONE;
            }
            Move m = world.moves[move];
            m.broken = false;
            if (m.stage == SWITCHED) {
                world.loseValues(m.from, m.low, m.end);
                endAs(m, DONE);
            } else {
                turnBack(m);
            }
            return m.stage;
        }

        boolean giveUp(int move) {
            if (!world.canStep(move) || world.moves[move].stage == SWITCHED) {
                return false;
            }
            turnBack(world.moves[move]);
            return true;
        }

        private void turnBack(Move m) {
            world.loseValues(m.to, m.low, m.end);
            endAs(m, UNDONE);
        }

        int stepsLeft(Move m) {
            // A step that finds its whole CHUNK can't know that none is behind it.
            int chunk = Math.max(1, world.chunk);
            int clean = world.valuesIn(m.from, m.stage == SWITCHED ? m.cursor : m.low, m.end) / chunk + 1;
            if (m.stage == SWITCHED) {
                return clean;
            }
            if (m.stage == FROZEN) {
                return 1 + clean;
            }
            int catchUp = Math.max(1, (m.trailed + chunk - 1) / chunk);
            if (m.stage == CATCH_UP) {
                return catchUp + 1 + clean;
            }
            return world.valuesIn(m.from, m.cursor, m.end) / chunk + 1 + catchUp + 1 + clean;
        }
    }

    /** THE MAP in thought: where the WEIGHT lies, and what to do next. */
    private static final class Plan {
        // sums[k]: the WEIGHT of all KEYS below k, so that a span's is a difference.
        final int[] sums = new int[KEYS + 1];
        final int[] lows = new int[MAX_SPANS + 1];
        final int[] owners = new int[MAX_SPANS];
        final boolean[] busy = new boolean[MAX_SPANS];
        final int[] loads = new int[SERVERS];
        int size;
        int up;
        int kind;
        int chosen;
        int target;

        void take(World world) {
            for (int key = 0; key < KEYS; key++) {
                sums[key + 1] = sums[key] + world.weights[key];
            }
            for (int server = 0; server < SERVERS; server++) {
                loads[server] = 0;
            }
            size = world.map.size;
            up = world.up;
            System.arraycopy(world.map.lows, 0, lows, 0, size);
            lows[size] = KEYS;
            for (int i = 0; i < size; i++) {
                owners[i] = world.map.owners[i];
                busy[i] = world.moveAt(lows[i]) != NONE;
                loads[owners[i]] += weightOf(i);
            }
        }

        int weightOf(int i) {
            return sums[lows[i + 1]] - sums[lows[i]];
        }

        int middleIn(int i) {
            int whole = weightOf(i);
            int low = lows[i] + 1;
            int high = lows[i + 1];
            if (whole == 0) {
                return NONE;
            }
            for (int turn = 0; turn < KEYS && low < high; turn++) {
                int between = (low + high) / 2;
                if (2 * (sums[between] - sums[lows[i]]) >= whole) {
                    high = between;
                } else {
                    low = between + 1;
                }
            }
            return low < lows[i + 1] ? low : NONE;
        }

        boolean isUp(int server) {
            return (up >> server & 1) == 1;
        }

        int heaviest(int but) {
            int best = NONE;
            for (int server = 0; server < SERVERS; server++) {
                if (server != but && isUp(server) && (best == NONE || loads[server] > loads[best])) {
                    best = server;
                }
            }
            return best;
        }

        int lightest(int but) {
            int best = NONE;
            for (int server = 0; server < SERVERS; server++) {
                if (server != but && isUp(server) && (best == NONE || loads[server] < loads[best])) {
                    best = server;
                }
            }
            return best;
        }

        /** EVEN, without a server (but NONE: of all); NONE if none is UP. */
        int gap(int but) {
            int high = heaviest(but);
            int deep = lightest(but);
            return high == NONE || deep == NONE ? NONE : loads[high] - loads[deep];
        }

        void decide() {
            kind = NEXT_NOTHING;
            chosen = NONE;
            target = NONE;
            int gap = gap(NONE);
            if (gap <= 0) {
                return;
            }
            int high = heaviest(NONE);
            chosen = bestToMove(high, gap);
            if (chosen != NONE) {
                kind = NEXT_MOVE;
                target = lightest(NONE);
                return;
            }
            chosen = size < MAX_SPANS ? bestToSplit(high) : NONE;
            if (chosen != NONE) {
                kind = NEXT_SPLIT;
                target = middleIn(chosen);
            }
        }

        private int bestToMove(int high, int gap) {
            int best = NONE;
            int bestGap = 0;
            for (int i = 0; i < size; i++) {
                int weight = weightOf(i);
                if (owners[i] != high || busy[i] || weight <= 0 || weight >= gap) {
                    continue;
                }
                int newGap = Math.abs(gap - 2 * weight);
                if (best == NONE || newGap < bestGap) {
                    best = i;
                    bestGap = newGap;
                }
            }
            return best;
        }

        private int bestToSplit(int high) {
            int best = NONE;
            for (int i = 0; i < size; i++) {
                boolean heavier = best == NONE || weightOf(i) > weightOf(best);
                if (owners[i] == high && !busy[i] && heavier && middleIn(i) != NONE) {
                    best = i;
                }
            }
            return best;
        }

        int heaviestFree(int server) {
            int best = NONE;
            for (int i = 0; i < size; i++) {
                if (owners[i] == server && !busy[i] && (best == NONE || weightOf(i) > weightOf(best))) {
                    best = i;
                }
            }
            return best;
        }

        void handTo(int i, int server) {
            int weight = weightOf(i);
            loads[owners[i]] -= weight;
            loads[server] += weight;
            owners[i] = server;
        }

        void carryOut() {
            if (kind == NEXT_MOVE) {
                handTo(chosen, target);
            } else if (kind == NEXT_SPLIT) {
                cut(chosen, target);
            }
        }

        private void cut(int i, int key) {
            for (int k = size; k > i; k--) {
                lows[k + 1] = lows[k];
            }
            for (int k = size; k > i + 1; k--) {
                owners[k] = owners[k - 1];
                busy[k] = busy[k - 1];
            }
            size++;
            lows[i + 1] = key;
            owners[i + 1] = owners[i];
            busy[i + 1] = false;
        }
    }

    /** The latest ACTS: one row more than count, so that a refused act costs none. */
    private static final class Acts {
        private final World[] rows = new World[ACT_ROWS];
        private int top;
        int count;

        void save(World world) {
            if (rows[top] == null) {
                rows[top] = new World();
            }
            rows[top].copyFrom(world);
        }

        void keep() {
            top = (top + 1) % ACT_ROWS;
            count = Math.min(count + 1, MAX_ACTS);
        }

        void forget() {
            count = 0;
        }

        boolean takeBack(World world) {
            int latest = (top + ACT_ROWS - 1) % ACT_ROWS;
            if (count == 0 || rows[latest] == null) {
                return false;
            }
            world.copyFrom(rows[latest]);
            top = latest;
            count--;
            return true;
        }
    }

    /** THE TAPE, and the clauses of the latest SCRIPT. */
    private static final class Script {
        private final char[] text = new char[MAX_TAPE];
        private final int[] numbers = new int[MAX_CLAUSES * MAX_NUMBERS];
        final int[] verbs = new int[MAX_CLAUSES];
        int length;
        int clauses;
        int fault;
        int place = NONE;
        private int at;

        void addFour(int number) {
            for (int shift = 24; shift >= 0 && length < MAX_TAPE; shift -= 8) {
                text[length] = (char) (number >> shift & 255);
                length++;
            }
        }

        int numberOf(int clause, int i) {
            return numbers[clause * MAX_NUMBERS + i];
        }

        void parse() {
            at = 0;
            clauses = 0;
            fault = 0;
            place = NONE;
            skipBlanks();
            for (int turn = 0; turn <= MAX_CLAUSES && at < length && fault == 0; turn++) {
                parseClause();
                skipBlanks();
            }
        }

        private void parseClause() {
            int word = at;
            while (at < length && text[at] >= 'a' && text[at] <= 'z') {
                at++;
            }
            int verb = verbOf(word, at);
            if (verb == NONE) {
                tell(FAULT_TEXT, word);
                return;
            }
            if (clauses >= MAX_CLAUSES) {
                tell(FAULT_CLAUSES, word);
                return;
            }
            for (int i = 0; i < VERB_NUMBERS[verb] && fault == 0; i++) {
                parseNumber(i);
            }
            if (fault == 0) {
                parseClauseEnd(verb);
            }
        }

        private void parseNumber(int i) {
            skipBlanks();
            int start = at;
            int value = 0;
            while (at < length && text[at] >= '0' && text[at] <= '9') {
                value = Math.min(value * 10 + text[at] - '0', MAX_VALUE + 1);
                at++;
            }
            if (at == start) {
                tell(FAULT_TEXT, start);
            } else if (value > MAX_VALUE) {
                tell(FAULT_NUMBER, start);
            } else {
                numbers[clauses * MAX_NUMBERS + i] = value;
            }
        }

        private void parseClauseEnd(int verb) {
            skipBlanks();
            if (at >= length || text[at] != ';') {
                tell(FAULT_TEXT, at);
                return;
            }
            at++;
            verbs[clauses] = verb;
            clauses++;
        }

        private int verbOf(int from, int to) {
            int verb = 0;
            int matched = from;
            boolean same = to > from;
            for (int i = 0; i < VERBS.length(); i++) {
                char sign = VERBS.charAt(i);
                if (sign == ' ') {
                    if (same && matched == to) {
                        return verb;
                    }
                    verb++;
                    matched = from;
                    same = to > from;
                } else if (matched < to && text[matched] == sign) {
                    matched++;
                } else {
                    same = false;
                }
            }
            return NONE;
        }

        private void skipBlanks() {
            while (at < length && text[at] == ' ') {
                at++;
            }
        }

        private void tell(int newFault, int newPlace) {
            fault = newFault;
            place = newPlace;
        }
    }
}
