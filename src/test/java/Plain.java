import java.util.ArrayList;
import java.util.List;
import java.util.TreeMap;

/** The document once more, as slow and plain as can be: per key rows, whole copies, no shared code. */
final class Plain {
    static final int NONE = -1;

    static final class Move {
        int stage = 1, low, end, from, to, cursor, cause, steps, told, epoch;
        boolean broken;
        List<Integer> trail = new ArrayList<>();

        Move copy() {
            Move m = new Move();
            m.stage = stage; m.low = low; m.end = end; m.from = from; m.to = to; m.cursor = cursor;
            m.cause = cause; m.steps = steps; m.told = told; m.epoch = epoch; m.broken = broken;
            m.trail = new ArrayList<>(trail);
            return m;
        }

        boolean on() { return stage < 5; }
    }

    /** A map by its keys: of each key the low, owner and epoch of its span. */
    static final class Map {
        int[] low = new int[1000], owner = new int[1000], epoch = new int[1000];
        int all;

        Map copy() {
            Map m = new Map();
            m.low = low.clone(); m.owner = owner.clone(); m.epoch = epoch.clone(); m.all = all;
            return m;
        }

        List<Integer> lows() {
            List<Integer> found = new ArrayList<>();
            for (int k = 0; k < 1000; k++) if (low[k] == k) found.add(k);
            return found;
        }

        int end(int l) {
            int k = l;
            while (k < 1000 && low[k] == l) k++;
            return k;
        }

        void set(int from, int to, int l, int o, int e) {
            for (int k = from; k < to; k++) { low[k] = l; owner[k] = o; epoch[k] = e; }
        }
    }

    static final class State {
        Map map = new Map();
        List<TreeMap<Integer, Integer>> stores = new ArrayList<>();
        int[] weight = new int[1000];
        boolean[] up = new boolean[6];
        Map[] caches = new Map[6];
        List<Move> moves = new ArrayList<>();
        int chunk = 4;
        List<int[]> owners = new ArrayList<>();
        List<int[]> changes = new ArrayList<>();

        State copy() {
            State s = new State();
            s.map = map.copy();
            for (TreeMap<Integer, Integer> t : stores) s.stores.add(new TreeMap<>(t));
            s.weight = weight.clone();
            s.up = up.clone();
            for (int i = 0; i < 6; i++) s.caches[i] = caches[i] == null ? null : caches[i].copy();
            for (Move m : moves) s.moves.add(m.copy());
            s.chunk = chunk;
            s.owners = new ArrayList<>(owners);
            s.changes = new ArrayList<>(changes);
            return s;
        }
    }

    State s = new State();
    int[] counts = new int[15];
    int[][] clients = new int[6][4];
    List<State> acts = new ArrayList<>();
    State image;
    int[] imageCounts;
    int[][] imageClients;
    String tape = "";
    int fault = 0, place = NONE, refused = NONE;

    Plain() {
        s.map.set(0, 1000, 0, 0, 1);
        s.map.all = 1;
        for (int i = 0; i < 6; i++) { s.stores.add(new TreeMap<>()); s.up[i] = true; }
        s.owners.add(null);
        s.owners.add(new int[1000]);
        s.changes.add(null);
        s.changes.add(new int[] {0, NONE, NONE});
    }

    static boolean in(int x, int from, int to) { return from <= x && x <= to; }

    boolean isLow(int low) { return in(low, 0, 999) && s.map.low[low] == low; }

    Move on(int low) {
        for (Move m : s.moves) if (m.on() && m.low == low) return m;
        return null;
    }

    void act(State before) {
        acts.add(before);
        if (acts.size() > 6) acts.remove(0);
    }

    void changed(int kind, int low, int owner) {
        s.owners.add(s.map.owner.clone());
        s.changes.add(new int[] {kind, low, owner});
    }

    // ---- asking

    int answer(int c, int k, boolean write) {
        Map cache = s.caches[c];
        if (cache == null) return 1;
        if (!s.up[cache.owner[k]]) return 2;
        if (cache.owner[k] != s.map.owner[k] || cache.epoch[k] != s.map.epoch[k]) return 3;
        Move m = on(s.map.low[k]);
        if (write && m != null && m.stage == 3) return 4;
        if (write && m != null && m.stage < 3 && m.trail.size() == 60 && !m.trail.contains(k)) return 4;
        return 0;
    }

    int ask(int c, int k, int value) {
        boolean write = value != 0;
        int a = answer(c, k, write);
        clients[c][0]++;
        if (a == 0) clients[c][1]++;
        if (a == 3) { clients[c][2]++; clients[c][3] = s.map.epoch[k]; }
        counts[a == 0 ? (write ? 1 : 0) : a + 1]++;
        if (a != 0) return a;
        s.weight[k] += write ? 2 : 1;
        if (write) {
            s.stores.get(s.map.owner[k]).put(k, value);
            Move m = on(s.map.low[k]);
            if (m != null && m.stage < 3 && !m.trail.contains(k)) m.trail.add(k);
        }
        return 0;
    }

    int fetch0(int c) {
        if (!in(c, 0, 5)) return NONE;
        s.caches[c] = s.map.copy();
        return s.map.all;
    }

    int read0(int c, int k) {
        if (!in(c, 0, 5) || !in(k, 0, 999)) return -10;
        int a = ask(c, k, 0);
        return a != 0 ? -1 - a : s.stores.get(s.map.owner[k]).getOrDefault(k, 0);
    }

    int write0(int c, int k, int v) {
        if (!in(c, 0, 5) || !in(k, 0, 999) || !in(v, 1, 99999)) return NONE;
        return ask(c, k, v);
    }

    int fetch(int c) { int r = fetch0(c); if (r != NONE) acts.clear(); return r; }
    int read(int c, int k) { int r = read0(c, k); if (r >= 0) acts.clear(); return r; }
    int write(int c, int k, int v) { int r = write0(c, k, v); if (r == 0) acts.clear(); return r; }

    int insist(int c, int k, int v) {
        int r = write0(c, k, v);
        if (r == 3) { fetch(c); r = write0(c, k, v); }
        if (r == 0) acts.clear();
        return r;
    }

    int scan(int c, int low, int high) {
        if (!in(c, 0, 5) || !in(low, 0, 999) || !in(high, low, Math.min(999, low + 60))) return -10;
        int n = 0;
        for (int k = low; k <= high; k++) {
            int r = read(c, k);
            if (r < 0) return r;
            if (r > 0) n++;
        }
        return n;
    }

    // ---- changes

    int split0(int low, int key) {
        if (!isLow(low) || key <= low || key >= s.map.end(low) || on(low) != null || s.map.lows().size() == 32) return NONE;
        int end = s.map.end(low), o = s.map.owner[low], e = ++s.map.all;
        s.map.set(low, key, low, o, e);
        s.map.set(key, end, key, o, e);
        counts[6]++;
        changed(1, low, o);
        return e;
    }

    long weightOf(int from, int to) {
        long w = 0;
        for (int k = from; k < to; k++) w += s.weight[k];
        return w;
    }

    static int mid(int[] weight, int low, int end) {
        long all = 0;
        for (int k = low; k < end; k++) all += weight[k];
        if (all == 0) return NONE;
        long below = 0;
        for (int k = low + 1; k < end; k++) {
            below += weight[k - 1];
            if (2 * below >= all) return k;
        }
        return NONE;
    }

    int middle0(int low) {
        if (!isLow(low)) return NONE;
        int key = mid(s.weight, low, s.map.end(low));
        return key == NONE || split0(low, key) == NONE ? NONE : key;
    }

    int join0(int low) {
        if (!isLow(low)) return NONE;
        int next = s.map.end(low);
        if (next == 1000 || s.map.owner[next] != s.map.owner[low] || on(low) != null || on(next) != null) return NONE;
        int e = ++s.map.all;
        s.map.set(low, s.map.end(next), low, s.map.owner[low], e);
        counts[7]++;
        changed(2, low, s.map.owner[low]);
        return e;
    }

    int move0(int low, int server) {
        if (!isLow(low) || !in(server, 0, 5)) return NONE;
        int from = s.map.owner[low];
        int going = 0;
        for (Move m : s.moves) if (m.on()) going++;
        if (from == server || !s.up[from] || !s.up[server] || on(low) != null || s.moves.size() == 12 || going == 4) return NONE;
        Move m = new Move();
        m.low = low; m.end = s.map.end(low); m.from = from; m.to = server; m.cursor = low;
        s.moves.add(m);
        counts[8]++;
        return s.moves.size() - 1;
    }

    Move moveNo(int i) { return in(i, 0, s.moves.size() - 1) ? s.moves.get(i) : null; }

    List<Integer> some(int server, int from, int end, int most) {
        List<Integer> keys = new ArrayList<>();
        for (int k : s.stores.get(server).keySet()) if (k >= from && k < end && keys.size() < most) keys.add(k);
        return keys;
    }

    void oneStep(Move m) {
        m.steps++;
        counts[11]++;
        boolean fails = m.told == 1;
        if (m.told > 0) m.told--;
        int n = fails ? s.chunk / 2 : s.chunk;
        TreeMap<Integer, Integer> from = s.stores.get(m.from), to = s.stores.get(m.to);
        int stage = m.stage;
        if (stage == 1 || stage == 4) {
            List<Integer> keys = some(m.from, m.cursor, m.end, n);
            for (int k : keys) {
                if (stage == 1) to.put(k, from.get(k)); else from.remove(k);
                m.cursor = k + 1;
            }
            counts[stage == 1 ? 13 : 14] += keys.size();
            if (!fails && keys.size() < n) {
                m.stage++;
                m.cursor = m.end;
                if (stage == 4) counts[9]++;
            }
        } else if (stage == 2) {
            for (int i = 0; i < n && !m.trail.isEmpty(); i++) {
                int k = m.trail.remove(0);
                if (from.containsKey(k)) to.put(k, from.get(k)); else to.remove(k);
                counts[13]++;
            }
            if (!fails && m.trail.isEmpty()) m.stage = 3;
        } else if (!fails) {
            int e = ++s.map.all;
            s.map.set(m.low, m.end, m.low, m.to, e);
            changed(3, m.low, m.to);
            m.epoch = e;
            m.stage = 4;
            m.cursor = m.low;
        }
        if (fails) { m.broken = true; m.cause = 3; counts[12]++; }
    }

    int step0(int i, int n) {
        Move m = moveNo(i);
        if (m == null || !in(n, 1, 100) || !m.on() || m.broken) return NONE;
        while (n-- > 0 && m.on() && !m.broken) oneStep(m);
        return m.stage;
    }

    boolean fail0(int i, int n) {
        Move m = moveNo(i);
        if (m == null || !in(n, 0, 99) || !m.on()) return false;
        m.told = n;
        return true;
    }

    int down0(int server) {
        if (!in(server, 0, 5) || !s.up[server]) return NONE;
        s.up[server] = false;
        int n = 0;
        for (Move m : s.moves) {
            if (!m.on()) continue;
            if (m.from == server) m.trail.clear();
            if (m.broken) continue;
            if (m.from == server) { m.broken = true; m.cause = 1; n++; }
            if (m.to == server) { m.broken = true; m.cause = 2; n++; }
        }
        return n;
    }

    boolean up0(int server) {
        if (!in(server, 0, 5) || s.up[server]) return false;
        s.up[server] = true;
        return true;
    }

    void lose(int server, Move m) {
        for (int k = m.low; k < m.end; k++) s.stores.get(server).remove(k);
    }

    int recover0(int i) {
        Move m = moveNo(i);
        if (m == null || !m.broken || !s.up[m.from] || !s.up[m.to]) return NONE;
        m.broken = false;
        lose(m.stage == 4 ? m.from : m.to, m);
        counts[m.stage == 4 ? 9 : 10]++;
        m.stage = m.stage == 4 ? 5 : 6;
        return m.stage;
    }

    boolean give0(int i) {
        Move m = moveNo(i);
        if (m == null || m.stage > 3 || m.broken || !s.up[m.from] || !s.up[m.to]) return false;
        lose(m.to, m);
        counts[10]++;
        m.stage = 6;
        return true;
    }

    long age0() {
        for (int k = 0; k < 1000; k++) s.weight[k] >>= 1;
        return weightOf(0, 1000);
    }

    boolean chunk0(int n) {
        if (!in(n, 1, 16)) return false;
        s.chunk = n;
        return true;
    }

    int act(int r, State before) { if (r != NONE) act(before); return r; }
    int split(int low, int key) { State b = s.copy(); return act(split0(low, key), b); }
    int middle(int low) { State b = s.copy(); return act(middle0(low), b); }
    int join(int low) { State b = s.copy(); return act(join0(low), b); }
    int move(int low, int server) { State b = s.copy(); return act(move0(low, server), b); }
    int step(int i, int n) { State b = s.copy(); return act(step0(i, n), b); }
    int recover(int i) { State b = s.copy(); return act(recover0(i), b); }
    boolean give(int i) { State b = s.copy(); boolean r = give0(i); if (r) act(b); return r; }
    long age() { act(s.copy()); return age0(); }
    boolean fail(int i, int n) { boolean r = fail0(i, n); if (r) acts.clear(); return r; }
    int down(int server) { int r = down0(server); if (r != NONE) acts.clear(); return r; }
    boolean up(int server) { boolean r = up0(server); if (r) acts.clear(); return r; }
    boolean chunk(int n) { boolean r = chunk0(n); if (r) acts.clear(); return r; }

    // ---- scripts, undoing, the image

    int feed(int... five) {
        if (tape.length() + 20 > 400) return NONE;
        for (int x : five) for (int shift = 24; shift >= 0; shift -= 8) tape += (char) (x >>> shift & 255);
        return tape.length();
    }

    boolean end(int n) {
        if (!in(n, 0, tape.length())) return false;
        tape = tape.substring(0, n);
        return true;
    }

    static final List<String> WORDS = List.of("fetch", "read", "write", "split", "middle", "join", "move", "step",
        "fail", "down", "up", "recover", "give", "age", "chunk");
    static final int[] ARGS = {1, 2, 3, 2, 1, 1, 2, 2, 2, 1, 1, 1, 1, 0, 1};

    /** Tokens first, then clauses: {kind, place, value}; kind 'w', 'n', ';', '?', '$' (the end). */
    static List<int[]> tokens(String text) {
        List<int[]> found = new ArrayList<>();
        int p = 0;
        while (p < text.length()) {
            char c = text.charAt(p);
            int q = p + 1;
            if (c == ' ') { p++; continue; }
            if (c >= 'a' && c <= 'z') {
                while (q < text.length() && text.charAt(q) >= 'a' && text.charAt(q) <= 'z') q++;
                found.add(new int[] {'w', p, WORDS.indexOf(text.substring(p, q))});
            } else if (c >= '0' && c <= '9') {
                while (q < text.length() && text.charAt(q) >= '0' && text.charAt(q) <= '9') q++;
                java.math.BigInteger n = new java.math.BigInteger(text.substring(p, q));
                found.add(new int[] {'n', p, n.bitLength() > 30 ? 100000 : n.intValue()});
            } else {
                found.add(new int[] {c == ';' ? ';' : '?', p, 0});
            }
            p = q;
        }
        found.add(new int[] {'$', text.length(), 0});
        return found;
    }

    int faultAt(int kind, int[] token) { fault = kind; place = token[1]; return NONE; }

    int script() {
        List<int[]> t = tokens(tape);
        tape = "";
        fault = 0;
        place = NONE;
        refused = NONE;
        List<int[]> clauses = new ArrayList<>();
        int i = 0;
        while (t.get(i)[0] != '$') {
            int[] w = t.get(i++);
            if (w[0] != 'w' || w[2] < 0) return faultAt(1, w);
            if (clauses.size() == 40) return faultAt(3, w);
            int[] clause = {w[2], 0, 0, 0};
            for (int a = 0; a < ARGS[w[2]]; a++) {
                int[] n = t.get(i++);
                if (n[0] != 'n') return faultAt(1, n);
                if (n[2] > 99999) return faultAt(2, n);
                clause[a + 1] = n[2];
            }
            int[] e = t.get(i++);
            if (e[0] != ';') return faultAt(1, e);
            clauses.add(clause);
        }
        State before = s.copy();
        int done = 0;
        for (int[] c : clauses) {
            if (!clause(WORDS.get(c[0]), c[1], c[2], c[3])) { refused = done; break; }
            done++;
        }
        if (done > 0) act(before);
        return done;
    }

    boolean clause(String word, int a, int b, int c) {
        switch (word) {
            case "fetch": return fetch0(a) != NONE;
            case "read": return read0(a, b) >= 0;
            case "write": return write0(a, b, c) == 0;
            case "split": return split0(a, b) != NONE;
            case "middle": return middle0(a) != NONE;
            case "join": return join0(a) != NONE;
            case "move": return move0(a, b) != NONE;
            case "step": return step0(a, b) != NONE;
            case "fail": return fail0(a, b);
            case "down": return down0(a) != NONE;
            case "up": return up0(a);
            case "recover": return recover0(a) != NONE;
            case "give": return give0(a);
            case "age": age0(); return true;
            default: return chunk0(a);
        }
    }

    int fault(int what) { return what == 0 ? fault : what == 1 ? place : what == 2 ? refused : NONE; }

    int undo() {
        if (acts.isEmpty()) return NONE;
        s = acts.remove(acts.size() - 1);
        return acts.size();
    }

    boolean image(boolean taken) {
        if (!taken && image == null) return false;
        if (taken) {
            image = s.copy();
            imageCounts = counts.clone();
            imageClients = copy(clients);
        } else {
            s = image.copy();
            counts = imageCounts.clone();
            clients = copy(imageClients);
            acts.clear();
        }
        return true;
    }

    static int[][] copy(int[][] rows) {
        int[][] r = rows.clone();
        for (int i = 0; i < r.length; i++) r[i] = r[i].clone();
        return r;
    }

    // ---- what is

    int spanLow(int i) { List<Integer> l = s.map.lows(); return in(i, 0, l.size() - 1) ? l.get(i) : NONE; }

    int span(int i, int what) {
        if (i == NONE) return s.map.lows().size();
        int low = spanLow(i);
        if (low == NONE) return NONE;
        Move m = on(low);
        switch (what) {
            case 0: return low;
            case 1: return s.map.end(low);
            case 2: return s.map.owner[low];
            case 3: return s.map.epoch[low];
            case 4: return m == null ? NONE : s.moves.indexOf(m);
            case 5: return m != null && m.stage == 3 ? 1 : 0;
            case 6: return s.stores.get(s.map.owner[low]).subMap(low, s.map.end(low)).size();
            default: return NONE;
        }
    }

    long weight(int i) { int low = spanLow(i); return low == NONE ? NONE : weightOf(low, s.map.end(low)); }
    int middleOf(int i) { int low = spanLow(i); return low == NONE ? NONE : mid(s.weight, low, s.map.end(low)); }
    int lowOf(int key) { return in(key, 0, 999) ? s.map.low[key] : NONE; }

    int server(int server, int what) {
        if (!in(server, 0, 5)) return NONE;
        int n = 0;
        switch (what) {
            case 0: return s.up[server] ? 1 : 0;
            case 1: for (int low : s.map.lows()) if (s.map.owner[low] == server) n++; return n;
            case 2: return s.stores.get(server).size();
            case 3: for (Move m : s.moves) if (m.on() && m.from == server) n++; return n;
            case 4: for (Move m : s.moves) if (m.on() && m.to == server) n++; return n;
            default: return NONE;
        }
    }

    long load(int server) {
        if (!in(server, 0, 5)) return NONE;
        return loads(s.map.owner)[server];
    }

    long[] loads(int[] owner) {
        long[] l = new long[6];
        for (int k = 0; k < 1000; k++) l[owner[k]] += s.weight[k];
        return l;
    }

    int stored(int server, int key) {
        if (!in(server, 0, 5) || !in(key, 0, 999)) return NONE;
        return s.stores.get(server).getOrDefault(key, 0);
    }

    int clientOf(int c, int what) {
        if (!in(c, 0, 5)) return NONE;
        Map cache = s.caches[c];
        switch (what) {
            case 0: return cache == null ? 0 : cache.all;
            case 1:
                int n = 0;
                if (cache != null) for (int low : cache.lows()) if (answer(c, low, false) == 3) n++;
                return n;
            case 2: case 3: case 4: case 5: return clients[c][what - 2];
            default: return NONE;
        }
    }

    int moveOf(int i, int what) {
        Move m = moveNo(i);
        if (m == null || !in(what, 0, 11)) return NONE;
        return new int[] {m.stage, m.low, m.end, m.from, m.to, m.cursor, m.trail.size(), m.broken ? 1 : 0, m.cause,
            m.steps, m.told, m.epoch}[what];
    }

    int trail(int i, int k) {
        Move m = moveNo(i);
        return m == null || !in(k, 0, m.trail.size() - 1) ? NONE : m.trail.get(k);
    }

    int owned(int epoch, int key) {
        return in(epoch, 1, s.map.all) && in(key, 0, 999) ? s.owners.get(epoch)[key] : NONE;
    }

    int passed(int key, int i) {
        if (!in(key, 0, 999) || i < 0) return NONE;
        for (int e = 2; e <= s.map.all; e++)
            if (s.owners.get(e)[key] != s.owners.get(e - 1)[key] && i-- == 0) return e;
        return NONE;
    }

    int changeOf(int epoch, int what) {
        return in(epoch, 1, s.map.all) && in(what, 0, 2) ? s.changes.get(epoch)[what] : NONE;
    }

    int hot(int i, int what) {
        List<Integer> keys = new ArrayList<>();
        for (int k = 0; k < 1000; k++) if (s.weight[k] > 0) keys.add(k);
        keys.sort((a, b) -> s.weight[a] != s.weight[b] ? s.weight[b] - s.weight[a] : a - b);
        if (!in(i, 0, keys.size() - 1) || !in(what, 0, 1)) return NONE;
        return what == 0 ? keys.get(i) : s.weight[keys.get(i)];
    }

    // ---- sound, even, next

    int sound() {
        for (int server = 0; server < 6; server++)
            for (int k : s.stores.get(server).keySet()) {
                Move m = on(s.map.low[k]);
                if (s.map.owner[k] != server && (m == null || m.from != server && m.to != server)) return 0;
            }
        return 1;
    }

    int spare() {
        int n = 0;
        for (int server = 0; server < 6; server++)
            for (int k : s.stores.get(server).keySet()) if (s.map.owner[k] != server) n++;
        return n;
    }

    /** {least server of the most, least server of the least, EVEN}, or null if none is up. */
    long[] extremes(long[] loads, int but) {
        int high = NONE, deep = NONE;
        for (int i = 5; i >= 0; i--) {
            if (!s.up[i] || i == but) continue;
            if (high == NONE || loads[i] >= loads[high]) high = i;
            if (deep == NONE || loads[i] <= loads[deep]) deep = i;
        }
        return high == NONE ? null : new long[] {high, deep, loads[high] - loads[deep]};
    }

    long even() {
        long[] x = extremes(loads(s.map.owner), NONE);
        return x == null ? NONE : x[2];
    }

    /** {what, low, target} on a map in thought. */
    int[] next(Map map) {
        int[] nothing = {0, NONE, NONE};
        long[] x = extremes(loads(map.owner), NONE);
        if (x == null || x[2] == 0) return nothing;
        int low = NONE;
        long least = Long.MAX_VALUE;
        for (int l : map.lows()) {
            long w = weightOf(l, map.end(l));
            if (map.owner[l] != x[0] || on(l) != null || w <= 0 || w >= x[2]) continue;
            long then = Math.abs(x[2] - 2 * w);
            if (then < least) { least = then; low = l; }
        }
        if (low != NONE) return new int[] {1, low, (int) x[1]};
        if (map.lows().size() == 32) return nothing;
        long most = -1;
        for (int l : map.lows()) {
            long w = weightOf(l, map.end(l));
            if (map.owner[l] == x[0] && on(l) == null && mid(s.weight, l, map.end(l)) != NONE && w > most) { most = w; low = l; }
        }
        return low == NONE ? nothing : new int[] {2, low, mid(s.weight, low, map.end(low))};
    }

    int next(int what) { return in(what, 0, 2) ? next(s.map)[what] : NONE; }

    int rounds(int bound) {
        if (!in(bound, 0, 1000000)) return NONE;
        Map map = s.map.copy();
        for (int n = 0; ; n++) {
            int[] next = next(map);
            long[] x = extremes(loads(map.owner), NONE);
            if (next[0] == 0 || x == null || x[2] <= bound) return n;
            if (n == 40) return NONE;
            int end = map.end(next[1]);
            if (next[0] == 1) map.set(next[1], end, next[1], next[2], 0);
            else map.set(next[2], end, next[2], map.owner[next[1]], 0);
        }
    }

    long emptied(int server, int what) {
        if (!in(server, 0, 5) || !in(what, 0, 2) || extremes(new long[6], server) == null) return NONE;
        long[] loads = loads(s.map.owner);
        List<Integer> go = new ArrayList<>();
        for (int low : s.map.lows()) if (s.map.owner[low] == server && on(low) == null) go.add(low);
        go.sort((a, b) -> {
            int c = Long.compare(weightOf(b, s.map.end(b)), weightOf(a, s.map.end(a)));
            return c != 0 ? c : a - b;
        });
        int first = NONE;
        for (int low : go) {
            int to = (int) extremes(loads, server)[1];
            if (first == NONE) first = to;
            loads[to] += weightOf(low, s.map.end(low));
        }
        return what == 0 ? go.size() : what == 1 ? extremes(loads, server)[2] : first;
    }

    int cuts(int n) {
        if (!in(n, 0, 1000000)) return NONE;
        int cuts = 0;
        for (int low : s.map.lows()) {
            int at = low, end = s.map.end(low), parts = 0;
            while (at < end) {
                int to = at + 1;
                while (to < end && weightOf(at, to + 1) <= n) to++;
                at = to;
                parts++;
            }
            cuts += parts - 1;
        }
        return cuts;
    }

    int lasts(int i) {
        Move m = moveNo(i);
        if (m == null || !m.on() || m.broken || !s.up[m.from] || !s.up[m.to]) return NONE;
        State before = s;
        int[] counted = counts.clone();
        s = before.copy();
        m = s.moves.get(i);
        m.told = 0;
        int n = 0;
        while (m.stage != 5) { oneStep(m); n++; }
        s = before;
        counts = counted;
        return n;
    }

    int count(int what) { return in(what, 0, 14) ? counts[what] : NONE; }

    int look(int what) {
        int n = 0;
        switch (what) {
            case 0: return s.map.all;
            case 1: return s.map.lows().size();
            case 2: for (int i = 0; i < 6; i++) if (s.up[i]) n += 1 << i; return n;
            case 3: return s.moves.size();
            case 4: for (Move m : s.moves) if (m.on()) n++; return n;
            case 5: for (Move m : s.moves) if (m.broken) n++; return n;
            case 6: return s.chunk;
            case 7: return acts.size();
            case 8: return tape.length();
            case 9: for (int k = 0; k < 1000; k++) if (s.stores.get(s.map.owner[k]).containsKey(k)) n++; return n;
            case 10: for (int low : s.map.lows()) if (on(low) != null && on(low).stage == 3) n++; return n;
            default: return NONE;
        }
    }
}
