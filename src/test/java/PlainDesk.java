import java.math.BigInteger;
import java.util.ArrayList;
import java.util.Arrays;
import java.util.Collections;
import java.util.HashMap;
import java.util.List;
import java.util.Map;
import java.util.Random;

/**
 * The document once more, written as plainly as can be and in other ways than VacuumDesk: pressures
 * by Cramer's rule net by net, tubes reduced one rule after the other in any order, parts by all
 * sets of tubes. The tests compare both.
 */
public final class PlainDesk {
    static final int TOP = 99_999_999;

    static final class Chamber {
        int feed, gas, heat, noted = -1;
        Chamber copy() { Chamber c = new Chamber(); c.feed = feed; c.gas = gas; c.heat = heat; c.noted = noted; return c; }
        int load() { return feed + gas * heat / 64; }
    }

    static final class Tube {
        int a, b, c;
        boolean open = true;
        Tube copy() { Tube t = new Tube(); t.a = a; t.b = b; t.c = c; t.open = open; return t; }
    }

    static final class Pump {
        int at, trip, tripped, b = 1, c = 2;
        int[] speed = new int[3];
        boolean runs = true;
        Pump copy() {
            Pump p = new Pump();
            p.at = at; p.trip = trip; p.tripped = tripped; p.b = b; p.c = c; p.speed = speed.clone(); p.runs = runs;
            return p;
        }
        int top() { return Math.max(speed[0], Math.max(speed[1], speed[2])); }
    }

    static final class Watch {
        int condition, x, n, action, y, done;
        Watch copy() {
            Watch w = new Watch();
            w.condition = condition; w.x = x; w.n = n; w.action = action; w.y = y; w.done = done;
            return w;
        }
    }

    static final class State {
        List<Chamber> chambers = new ArrayList<>();
        List<Tube> tubes = new ArrayList<>();
        List<Pump> pumps = new ArrayList<>();
        List<Watch> watches = new ArrayList<>();
        List<int[]> log = new ArrayList<>();
        int time, joint = -1, strength;

        State copy() {
            State s = new State();
            for (Chamber c : chambers) s.chambers.add(c.copy());
            for (Tube t : tubes) s.tubes.add(t.copy());
            for (Pump p : pumps) s.pumps.add(p.copy());
            for (Watch w : watches) s.watches.add(w.copy());
            s.log.addAll(log);
            s.time = time; s.joint = joint; s.strength = strength;
            return s;
        }

        int weight(int c) {
            int w = 0;
            for (Tube t : tubes) if (t.a == c || t.b == c) w += t.c;
            for (Pump p : pumps) if (p.at == c) w += p.top();
            return w;
        }

        boolean joint(int j) { return j >= 0 && j < chambers.size() || j >= 10 && j - 10 < tubes.size(); }

        int[] netNumbers() {
            int n = chambers.size();
            int[] net = new int[n];
            for (int i = 0; i < n; i++) net[i] = i;
            for (int k = 0; k < n; k++)
                for (Tube t : tubes)
                    if (t.open) net[t.a] = net[t.b] = Math.min(net[t.a], net[t.b]);
            return net;
        }

        long twiceIn(int c) {
            long in = 2L * chambers.get(c).load();
            if (strength > 0 && joint == c) in += 2L * strength;
            if (strength > 0 && joint >= 10) {
                Tube t = tubes.get(joint - 10);
                if (t.a == c) in += strength;
                if (t.b == c) in += strength;
            }
            return in;
        }
    }

    /** Pressures: upper by lower, lower 0: endless. */
    static final class Pressures {
        int rows;
        int[] stages;
        long[] upper, lower;
        boolean hunts() { return rows == 0; }
        int reading(int c) {
            if (hunts()) return -3;
            if (lower[c] == 0) return TOP;
            return (int) Math.min(TOP, 1000 * upper[c] / lower[c]);
        }
        int greatest() {
            int g = 0;
            for (int c = 0; c < upper.length; c++) g = Math.max(g, reading(c));
            return g;
        }
        boolean under(int n) {
            if (hunts()) return false;
            for (int c = 0; c < upper.length; c++) if (reading(c) > n) return false;
            return true;
        }
    }

    private static final Map<String, Pressures> KNOWN = new HashMap<>();

    /** All that pressures depend on. */
    private static String keyOf(State s) {
        StringBuilder key = new StringBuilder();
        for (int i = 0; i < s.chambers.size(); i++) key.append(s.twiceIn(i)).append(' ');
        for (Tube t : s.tubes) key.append(t.a).append(t.b).append(t.c).append(t.open ? 'o' : 's');
        for (Pump p : s.pumps)
            key.append('p').append(p.at).append(p.runs).append(Arrays.toString(p.speed)).append(p.b).append('-').append(p.c);
        return key.toString();
    }

    static Pressures pressures(State s) {
        String key = keyOf(s);
        Pressures known = KNOWN.get(key);
        if (known == null) {
            if (KNOWN.size() > 100_000) KNOWN.clear();
            known = work(s);
            KNOWN.put(key, known);
        }
        return known;
    }

    private static Pressures work(State s) {
        Pressures first = new Pressures();
        int pumps = s.pumps.size();
        int all = 1;
        for (int i = 0; i < pumps; i++) all *= 3;
        for (int r = 0; r < all; r++) {
            int[] stages = new int[pumps];
            int rest = r;
            for (int i = pumps - 1; i >= 0; i--) { stages[i] = rest % 3; rest /= 3; }
            Pressures p = given(s, stages);
            if (p == null) continue;
            p.rows = first.rows + 1;
            if (first.rows == 0) first = p; else first.rows++;
        }
        return first;
    }

    /** Null if the stages don't agree with the pressures that they give. */
    private static Pressures given(State s, int[] stages) {
        int n = s.chambers.size();
        Pressures out = new Pressures();
        out.stages = stages;
        out.upper = new long[n];
        out.lower = new long[n];
        for (int i = 0; i < stages.length; i++) if (!s.pumps.get(i).runs && stages[i] != 0) return null;
        int[] net = s.netNumbers();
        for (int k = 0; k < n; k++) {
            List<Integer> members = new ArrayList<>();
            for (int c = 0; c < n; c++) if (net[c] == k) members.add(c);
            if (!members.isEmpty()) oneNet(s, stages, members, out);
        }
        for (int i = 0; i < stages.length; i++) {
            Pump p = s.pumps.get(i);
            if (!p.runs) continue;
            long u = out.upper[p.at], l = out.lower[p.at];
            int stage = l == 0 ? 2 : u < p.b * l ? 0 : u < p.c * l ? 1 : 2;
            if (stage != stages[i]) return null;
        }
        return out;
    }

    private static void oneNet(State s, int[] stages, List<Integer> members, Pressures out) {
        int m = members.size();
        long[][] a = new long[m][m];
        long[] in = new long[m];
        long sum = 0, speed = 0;
        for (int i = 0; i < m; i++) {
            int c = members.get(i);
            in[i] = s.twiceIn(c);
            sum += in[i];
            for (int p = 0; p < stages.length; p++) {
                Pump pump = s.pumps.get(p);
                if (pump.at == c && pump.runs) { a[i][i] += pump.speed[stages[p]]; speed += pump.speed[stages[p]]; }
            }
        }
        addTubes(s, members, a);
        if (speed == 0) {
            for (int c : members) { out.upper[c] = 0; out.lower[c] = sum > 0 ? 0 : 1; }
            return;
        }
        long whole = determinant(a);
        for (int i = 0; i < m; i++) {
            long[][] b = new long[m][];
            for (int r = 0; r < m; r++) { b[r] = a[r].clone(); b[r][i] = in[r]; }
            out.upper[members.get(i)] = determinant(b);
            out.lower[members.get(i)] = 2 * whole;
        }
    }

    private static void addTubes(State s, List<Integer> members, long[][] a) {
        for (Tube t : s.tubes) {
            int i = members.indexOf(t.a), j = members.indexOf(t.b);
            if (!t.open) continue;
            if (i >= 0) a[i][i] += t.c;
            if (j >= 0) a[j][j] += t.c;
            if (i >= 0 && j >= 0) { a[i][j] -= t.c; a[j][i] -= t.c; }
        }
    }

    static long determinant(long[][] a) {
        int n = a.length;
        if (n == 0) return 1;
        long sum = 0;
        for (int k = 0; k < n; k++) {
            if (a[0][k] == 0) continue;
            long[][] b = new long[n - 1][n - 1];
            for (int r = 1; r < n; r++)
                for (int c = 0, d = 0; c < n; c++) if (c != k) b[r - 1][d++] = a[r][c];
            long product = Math.multiplyExact(a[0][k], determinant(b));
            sum = Math.addExact(sum, k % 2 == 0 ? product : -product);
        }
        return sum;
    }

    static long term(long u, long l, int what) {
        long g = BigInteger.valueOf(u).gcd(BigInteger.valueOf(l)).longValueExact();
        return what == 0 ? u / g : l / g;
    }

    // ---- the desk ----

    private State s = new State();
    private final List<State> past = new ArrayList<>();
    private final List<Integer> kinds = new ArrayList<>();
    private final State[] images = new State[2];
    private final Map<Integer, Integer> refused = new HashMap<>();
    private int status;
    private final Random order = new Random(5);

    private int no(int by) { status = by; refused.merge(by, 1, Integer::sum); return by; }

    private void keep(int kind) {
        status = 0;
        past.add(s.copy());
        kinds.add(kind);
        if (past.size() > 10) { past.remove(0); kinds.remove(0); }
    }

    private boolean c(int c) { return c >= 0 && c < s.chambers.size(); }
    private boolean t(int t) { return t >= 0 && t < s.tubes.size(); }
    private boolean p(int p) { return p >= 0 && p < s.pumps.size(); }
    private boolean w(int w) { return w >= 0 && w < s.watches.size(); }
    private static boolean in(int v, int a, int b) { return v >= a && v <= b; }

    public int chamber(int feed, int gas) {
        if (!in(feed, 0, 99) || !in(gas, 0, 4999)) return no(-1);
        if (s.chambers.size() == 5) return no(-5);
        keep(0);
        Chamber c = new Chamber();
        c.feed = feed; c.gas = gas;
        s.chambers.add(c);
        return s.chambers.size() - 1;
    }

    public int tube(int from, int to, int one, int two, int three) {
        if (!in(one, 1, 12) || !in(two, 0, 12) || !in(three, 0, 12) || two == 0 && three != 0) return no(-1);
        if (!c(from) || !c(to)) return no(-2);
        if (from == to) return no(-4);
        BigInteger u = BigInteger.valueOf(one), l = BigInteger.ONE;
        for (int piece : new int[] {two, three}) {
            if (piece == 0) continue;
            // u/l times piece, by u/l + piece
            BigInteger q = BigInteger.valueOf(piece);
            BigInteger up = u.multiply(q), low = u.add(q.multiply(l));
            u = up; l = low;
        }
        int cond = Math.max(1, u.divide(l).intValueExact());
        if (s.tubes.size() == 10 || s.weight(from) + cond > 120 || s.weight(to) + cond > 120) return no(-5);
        keep(1);
        Tube t = new Tube();
        t.a = from; t.b = to; t.c = cond;
        s.tubes.add(t);
        return s.tubes.size() - 1;
    }

    public int pump(int chamber, int speed) {
        if (!in(speed, 1, 40)) return no(-1);
        if (!c(chamber)) return no(-2);
        if (s.pumps.size() == 3 || s.weight(chamber) + speed > 120) return no(-5);
        keep(2);
        s.pumps.add(newPump(chamber, speed));
        return s.pumps.size() - 1;
    }

    private static Pump newPump(int at, int speed) {
        Pump p = new Pump();
        p.at = at;
        Arrays.fill(p.speed, speed);
        return p;
    }

    public int curve(int pump, int what, int value) {
        if (!in(what, 0, 5)) return no(-1);
        if (what < 3 ? !in(value, 0, 40) : what < 5 ? !in(value, 1, 9999) : !in(value, 0, 9999)) return no(-1);
        if (!p(pump)) return no(-2);
        State then = s.copy();
        Pump q = then.pumps.get(pump);
        int was;
        if (what < 3) { was = q.speed[what]; q.speed[what] = value; }
        else if (what == 3) { was = q.b; q.b = value; }
        else if (what == 4) { was = q.c; q.c = value; }
        else { was = q.trip; q.trip = value; }
        if (q.top() == 0 || q.b >= q.c) return no(-4);
        if (then.weight(q.at) > 120) return no(-5);
        keep(3);
        s = then;
        return was;
    }

    public int set(int chamber, int what, int value) {
        if (!in(what, 0, 2) || !in(value, 0, what == 0 ? 99 : what == 1 ? 4999 : 9)) return no(-1);
        if (!c(chamber)) return no(-2);
        keep(4);
        Chamber c = s.chambers.get(chamber);
        int was = what == 0 ? c.feed : what == 1 ? c.gas : c.heat;
        if (what == 0) c.feed = value; else if (what == 1) c.gas = value; else c.heat = value;
        return was;
    }

    public int turn(int tube) {
        if (!t(tube)) return no(-2);
        keep(5);
        return (s.tubes.get(tube).open = !s.tubes.get(tube).open) ? 1 : 0;
    }

    public int run(int pump) {
        if (!p(pump)) return no(-2);
        keep(6);
        return (s.pumps.get(pump).runs = !s.pumps.get(pump).runs) ? 1 : 0;
    }

    public int leak(int joint, int strength) {
        if (!in(strength, 0, 60)) return no(-1);
        if (strength > 0 && !s.joint(joint)) return no(-2);
        keep(7);
        int was = s.strength;
        s.strength = strength;
        s.joint = strength == 0 ? -1 : joint;
        return was;
    }

    public int watch(int condition, int x, int n, int action, int y) {
        if (!in(condition, 0, 2) || !in(n, 0, TOP) || !in(action, 0, 4) || !in(x, 0, 9) || !in(y, 0, 9)) return no(-1);
        if (s.watches.size() == 6) return no(-5);
        keep(8);
        Watch w = new Watch();
        w.condition = condition; w.x = x; w.n = n; w.action = action; w.y = y;
        s.watches.add(w);
        return s.watches.size() - 1;
    }

    public int drop(int watch) {
        if (!w(watch)) return no(-2);
        keep(9);
        s.watches.remove(watch);
        return s.watches.size();
    }

    public int steps(int n) {
        if (!in(n, 1, 40)) return no(-1);
        if (s.time + n > 9999) return no(-4);
        keep(10);
        int sum = 0;
        for (int i = 0; i < n; i++) sum += step(s, new ArrayList<>());
        return sum;
    }

    private static boolean so(State s, Watch w) {
        if (w.condition == 2) return s.time >= w.n;
        if (w.x >= s.chambers.size()) return false;
        Pressures p = pressures(s);
        if (p.hunts()) return false;
        return w.condition == 0 ? p.reading(w.x) > w.n : p.reading(w.x) < w.n;
    }

    private static boolean act(State s, int action, int y) {
        if (action <= 1) {
            if (y >= s.tubes.size() || s.tubes.get(y).open == (action == 1)) return false;
            s.tubes.get(y).open = action == 1;
            return true;
        }
        if (action <= 3) {
            if (y >= s.pumps.size() || s.pumps.get(y).runs == (action == 3)) return false;
            s.pumps.get(y).runs = action == 3;
            return true;
        }
        if (y >= s.chambers.size() || s.chambers.get(y).heat == 0) return false;
        s.chambers.get(y).heat = 0;
        return true;
    }

    private static int step(State s, List<Integer> tripping) {
        int sum = 0;
        for (Watch w : s.watches) if (so(s, w) && act(s, w.action, w.y)) { w.done++; sum++; }
        Pressures p = pressures(s);
        for (int i = 0; i < s.pumps.size(); i++) {
            Pump q = s.pumps.get(i);
            if (q.runs && q.trip > 0 && !p.hunts() && p.reading(q.at) >= q.trip * 1000) tripping.add(i);
        }
        for (int i : tripping) { s.pumps.get(i).runs = false; s.pumps.get(i).tripped++; sum++; }
        p = pressures(s);
        int[] row = new int[s.chambers.size()];
        for (int c = 0; c < row.length; c++) row[c] = p.reading(c);
        s.log.add(0, row);
        if (s.log.size() > 40) s.log.remove(40);
        for (Chamber c : s.chambers) c.gas -= c.gas * c.heat / 64;
        s.time++;
        return sum;
    }

    public int note(int chamber, int reading) {
        if (!in(reading, -1, TOP)) return no(-1);
        if (!c(chamber)) return no(-2);
        keep(11);
        int was = s.chambers.get(chamber).noted;
        s.chambers.get(chamber).noted = reading;
        return was;
    }

    public int noteAll() {
        if (pressures(s).hunts()) return no(-4);
        keep(12);
        for (int i = 0; i < s.chambers.size(); i++) s.chambers.get(i).noted = pressures(s).reading(i);
        return s.chambers.size();
    }

    public int undo() {
        if (past.isEmpty()) return no(-4);
        status = 0;
        s = past.remove(past.size() - 1);
        return kinds.remove(kinds.size() - 1);
    }

    public int image(int k) {
        if (!in(k, 0, 1)) return no(-1);
        status = 0;
        images[k] = s.copy();
        return s.time;
    }

    public int back(int k) {
        if (!in(k, 0, 1)) return no(-1);
        if (images[k] == null) return no(-4);
        status = 0;
        s = images[k].copy();
        past.clear();
        kinds.clear();
        return s.time;
    }

    public long pressure(int chamber, int what) {
        if (!c(chamber) || !in(what, 0, 1)) return -1;
        Pressures p = pressures(s);
        if (p.hunts()) return -3;
        return p.lower[chamber] == 0 ? -2 : term(p.upper[chamber], p.lower[chamber], what);
    }

    public int reading(int chamber) { return c(chamber) ? pressures(s).reading(chamber) : -1; }

    public long flow(int tube, int what) {
        if (!t(tube) || !in(what, 0, 1) || pressures(s).hunts()) return Integer.MIN_VALUE;
        Tube t = s.tubes.get(tube);
        if (!t.open) return what;
        Pressures p = pressures(s);
        if (p.lower[t.a] == 0) return Integer.MIN_VALUE;
        return term(t.c * (p.upper[t.a] - p.upper[t.b]), p.lower[t.a], what);
    }

    public long drawn(int pump, int what) {
        if (!p(pump) || !in(what, 0, 1)) return -1;
        Pressures p = pressures(s);
        if (p.hunts()) return -3;
        Pump q = s.pumps.get(pump);
        if (!q.runs) return what;
        if (p.lower[q.at] == 0) return -2;
        return term(q.speed[p.stages[pump]] * p.upper[q.at], p.lower[q.at], what);
    }

    public int stage(int pump) {
        if (!p(pump)) return -1;
        return pressures(s).hunts() ? -3 : pressures(s).stages[pump];
    }

    public long between(int from, int to, int what) {
        if (!c(from) || !c(to) || from == to || !in(what, 0, 1)) return -1;
        int[] net = s.netNumbers();
        if (net[from] != net[to]) return -1;
        List<Integer> members = new ArrayList<>();
        for (int i = 0; i < net.length; i++) if (net[i] == net[to] && i != to) members.add(i);
        long[][] a = new long[members.size()][members.size()];
        addTubes(s, members, a);
        long whole = determinant(a);
        int i = members.indexOf(from);
        for (int r = 0; r < a.length; r++) a[r][i] = r == i ? 1 : 0;
        return term(whole, determinant(a), what);
    }

    /** Tubes as fractions; the rules are tried in a random order until none can be used. */
    public long reduced(int from, int to, int what) {
        if (!c(from) || !c(to) || from == to || !in(what, 0, 2)) return -1;
        List<BigInteger[]> left = new ArrayList<>();
        for (Tube t : s.tubes) if (t.open) left.add(edge(t.a, t.b, BigInteger.valueOf(t.c), BigInteger.ONE));
        boolean going = true;
        while (going) {
            Collections.shuffle(left, order);
            going = order.nextBoolean()
                ? parallel(left) || series(left, from, to)
                : series(left, from, to) || parallel(left);
        }
        if (what == 0) return left.size();
        if (left.size() != 1) return 0;
        BigInteger[] e = left.get(0);
        boolean joins = e[0].intValue() == Math.min(from, to) && e[1].intValue() == Math.max(from, to);
        return joins ? e[what + 1].divide(e[2].gcd(e[3])).longValueExact() : 0;
    }

    private static BigInteger[] edge(int a, int b, BigInteger u, BigInteger l) {
        return new BigInteger[] {BigInteger.valueOf(Math.min(a, b)), BigInteger.valueOf(Math.max(a, b)), u, l};
    }

    private static boolean parallel(List<BigInteger[]> left) {
        for (int i = 0; i < left.size(); i++)
            for (int j = i + 1; j < left.size(); j++) {
                BigInteger[] e = left.get(i), f = left.get(j);
                if (!e[0].equals(f[0]) || !e[1].equals(f[1])) continue;
                left.remove(j);
                left.remove(i);
                left.add(edge(e[0].intValue(), e[1].intValue(),
                    e[2].multiply(f[3]).add(f[2].multiply(e[3])), e[3].multiply(f[3])));
                return true;
            }
        return false;
    }

    private boolean series(List<BigInteger[]> left, int from, int to) {
        List<Integer> all = new ArrayList<>();
        for (int i = 0; i < s.chambers.size(); i++) if (i != from && i != to) all.add(i);
        Collections.shuffle(all, order);
        for (int x : all) {
            List<BigInteger[]> at = new ArrayList<>();
            for (BigInteger[] e : left) if (e[0].intValue() == x || e[1].intValue() == x) at.add(e);
            if (at.size() == 1) { left.remove(at.get(0)); return true; }
            if (at.size() != 2) continue;
            BigInteger[] e = at.get(0), f = at.get(1);
            int a = e[0].intValue() + e[1].intValue() - x, b = f[0].intValue() + f[1].intValue() - x;
            if (a == b) continue;
            left.remove(e);
            left.remove(f);
            left.add(edge(a, b, e[2].multiply(f[2]), e[2].multiply(f[3]).add(f[2].multiply(e[3]))));
            return true;
        }
        return false;
    }

    private String soughtFor = "";
    private List<int[]> soughtList;
    private int soughtMost;

    /** Kept as long as nothing changes that it depends on, for it takes long. */
    private List<int[]> suspectList(int[] most) {
        StringBuilder key = new StringBuilder(keyOf(s));
        for (Chamber c : s.chambers) key.append('n').append(c.noted);
        if (!key.toString().equals(soughtFor) || soughtList == null) {
            int[] found = {0};
            soughtList = seek(found);
            soughtMost = found[0];
            soughtFor = key.toString();
        }
        most[0] = soughtMost;
        return soughtList;
    }

    private List<int[]> seek(int[] most) {
        List<int[]> list = new ArrayList<>();
        State q = s.copy();
        for (int j = 0; j < 20; j++) {
            if (!s.joint(j)) continue;
            for (int n = 1; n <= 60; n++) {
                q.joint = j;
                q.strength = n;
                Pressures p = work(q);
                if (p.hunts()) continue;
                int alike = 0, noted = 0;
                for (int i = 0; i < q.chambers.size(); i++) {
                    if (q.chambers.get(i).noted < 0) continue;
                    noted++;
                    if (q.chambers.get(i).noted == p.reading(i)) alike++;
                }
                most[0] = Math.max(most[0], alike);
                if (alike == noted) list.add(new int[] {j, n});
            }
        }
        return list;
    }

    public int suspects(int what) {
        int[] most = {0};
        List<int[]> list = suspectList(most);
        switch (what) {
            case 0: return list.size();
            case 1: return list.isEmpty() ? -1 : list.get(0)[0];
            case 2: return list.isEmpty() ? -1 : list.get(0)[1];
            case 3: return (int) list.stream().map(x -> x[0]).distinct().count();
            case 4: return most[0];
            default: return -1;
        }
    }

    public int probe(int what) {
        List<int[]> list = suspectList(new int[1]);
        if (list.isEmpty() || s.tubes.isEmpty() || !in(what, 0, 1)) return -1;
        if (list.size() > 20) list = list.subList(0, 20);
        int best = -1, least = 0;
        for (int t = 0; t < s.tubes.size(); t++) {
            State q = s.copy();
            q.tubes.get(t).open = !q.tubes.get(t).open;
            Map<String, Integer> groups = new HashMap<>();
            for (int[] suspect : list) {
                q.joint = suspect[0];
                q.strength = suspect[1];
                Pressures p = work(q);
                String name = "";
                for (int i = 0; i < q.chambers.size(); i++)
                    if (q.chambers.get(i).noted >= 0) name += p.reading(i) + " ";
                groups.merge(p.hunts() ? "hunts" : name, 1, Integer::sum);
            }
            int leaves = Collections.max(groups.values());
            if (best < 0 || leaves < least) { best = t; least = leaves; }
        }
        return what == 0 ? best : least;
    }

    public int parts(int from, int to, int what) {
        if (!c(from) || !c(to) || from == to || !in(what, 0, 1)) return -1;
        int[] net = s.netNumbers();
        if (net[from] != net[to]) return -1;
        int best = -1;
        for (int bits = 0; bits < 1 << s.tubes.size(); bits++) {
            if (best >= 0 && Integer.bitCount(bits) >= Integer.bitCount(best)) continue;
            State q = s.copy();
            boolean fits = true;
            for (int t = 0; t < s.tubes.size(); t++)
                if ((bits >> t & 1) == 1) { fits &= s.tubes.get(t).open; q.tubes.get(t).open = false; }
            int[] then = q.netNumbers();
            if (fits && then[from] != then[to]) best = bits;
        }
        return what == 0 ? Integer.bitCount(best) : best;
    }

    private Pressures withHelp(int at, int speed) {
        State q = s.copy();
        q.pumps.add(newPump(at, speed));
        return pressures(q);
    }

    public int place(int speed) {
        if (!in(speed, 1, 40)) return -1;
        int best = -1, least = 0;
        for (int i = 0; i < s.chambers.size(); i++) {
            if (s.weight(i) + speed > 160) continue;
            Pressures p = withHelp(i, speed);
            if (p.hunts()) continue;
            if (best < 0 || p.greatest() < least) { best = i; least = p.greatest(); }
        }
        return best;
    }

    public int hottest(int n) {
        if (n < 0) return -1;
        int best = -1;
        for (int h = 0; h <= 9; h++) {
            State q = s.copy();
            for (Chamber c : q.chambers) c.heat = h;
            if (pressures(q).under(n)) best = h;
        }
        return best;
    }

    public int fed(int chamber, int n) {
        if (n < 0 || !c(chamber)) return -1;
        int best = -1;
        for (int f = 0; f <= 99; f++) {
            State q = s.copy();
            q.chambers.get(chamber).feed = f;
            if (pressures(q).under(n)) best = f;
        }
        return best;
    }

    public int bears(int joint, int n) {
        if (n < 0 || !s.joint(joint)) return -1;
        int best = -1;
        for (int f = 0; f <= 60; f++) {
            State q = s.copy();
            q.joint = f == 0 ? -1 : joint;
            q.strength = f;
            if (pressures(q).under(n)) best = f;
        }
        return best;
    }

    public int valve(int what) {
        if (!in(what, 0, 1)) return -1;
        int best = -1, least = -1;
        for (int t = 0; t < s.tubes.size(); t++) {
            State q = s.copy();
            q.tubes.get(t).open = !q.tubes.get(t).open;
            Pressures p = pressures(q);
            if (p.hunts()) continue;
            if (best < 0 || p.greatest() < least) { best = t; least = p.greatest(); }
        }
        return what == 0 ? best : least;
    }

    public int trip(int what) {
        if (!in(what, 0, 1)) return -1;
        State q = s.copy();
        for (int k = 1; k <= 200 && q.time + 1 <= 9999; k++) {
            List<Integer> tripping = new ArrayList<>();
            step(q, tripping);
            if (!tripping.isEmpty()) return what == 0 ? Collections.min(tripping) : k;
        }
        return -1;
    }

    public int lookout() {
        int bits = 0;
        for (int i = 0; i < s.watches.size(); i++) if (so(s, s.watches.get(i))) bits += 1 << i;
        return bits;
    }

    public int tried(int joint, int strength, int chamber) {
        if (!s.joint(joint) || !in(strength, 0, 60) || !c(chamber)) return -1;
        State q = s.copy();
        q.joint = strength == 0 ? -1 : joint;
        q.strength = strength;
        return pressures(q).reading(chamber);
    }

    public int helped(int at, int speed, int chamber) {
        if (!c(at) || !in(speed, 1, 40) || !c(chamber) || s.weight(at) + speed > 160) return -1;
        return withHelp(at, speed).reading(chamber);
    }

    public int until(int n) {
        if (n < 0) return -1;
        State q = s.copy();
        for (int k = 0; k <= 200; k++) {
            if (pressures(q).under(n)) return k;
            if (q.time == 9999) return -1;
            step(q, new ArrayList<>());
        }
        return -1;
    }

    public int log(int chamber, int ago) {
        if (!c(chamber) || ago < 0 || ago >= s.log.size()) return -1;
        int[] row = s.log.get(ago);
        return chamber < row.length ? row[chamber] : -1;
    }

    public int ofChamber(int chamber, int what) {
        if (!c(chamber)) return -1;
        Chamber c = s.chambers.get(chamber);
        int[] net = s.netNumbers();
        int bits = 0;
        for (int i = 0; i < net.length; i++) if (net[i] == net[chamber]) bits += 1 << i;
        int[] all = {c.feed, c.gas, c.heat, c.load(), s.weight(chamber), c.noted, bits};
        return in(what, 0, 6) ? all[what] : -1;
    }

    public int ofTube(int tube, int what) {
        if (!t(tube)) return -1;
        Tube t = s.tubes.get(tube);
        int[] all = {t.a, t.b, t.c, t.open ? 1 : 0};
        return in(what, 0, 3) ? all[what] : -1;
    }

    public int ofPump(int pump, int what) {
        if (!p(pump)) return -1;
        Pump p = s.pumps.get(pump);
        int[] all = {p.at, p.runs ? 1 : 0, p.speed[0], p.speed[1], p.speed[2], p.b, p.c, p.trip, p.tripped};
        return in(what, 0, 8) ? all[what] : -1;
    }

    public int ofWatch(int watch, int what) {
        if (!w(watch)) return -1;
        Watch w = s.watches.get(watch);
        int[] all = {w.condition, w.x, w.n, w.action, w.y, w.done};
        return in(what, 0, 5) ? all[what] : -1;
    }

    public int count(int what) {
        int noted = 0;
        for (Chamber c : s.chambers) if (c.noted >= 0) noted++;
        Pressures p = pressures(s);
        int[] all = {
            s.chambers.size(), s.tubes.size(), s.pumps.size(), s.watches.size(), s.time, s.joint, s.strength,
            noted, s.log.size(), past.size(), (int) Arrays.stream(s.netNumbers()).distinct().count(),
            p.hunts() ? 1 : 0, p.rows,
            refused.getOrDefault(-1, 0), refused.getOrDefault(-2, 0),
            refused.getOrDefault(-4, 0), refused.getOrDefault(-5, 0)};
        return in(what, 0, 16) ? all[what] : -1;
    }

    public int status() { return status; }
}
