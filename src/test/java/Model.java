import java.util.ArrayDeque;
import java.util.ArrayList;
import java.util.Arrays;
import java.util.Deque;
import java.util.List;
import java.util.TreeSet;
import java.util.regex.Matcher;
import java.util.regex.Pattern;

/**
 * The document once more, written for the tests alone: slow, by other ways than the class where
 * there is one (all divisions are tried, slopes come from differences, scripts from a pattern).
 */
final class Model {
    /** A fraction in lowest terms. */
    static final class Frac implements Comparable<Frac> {
        final long top;
        final long bottom;

        Frac(long top, long bottom) {
            long x = Math.abs(top);
            long y = Math.abs(bottom);
            while (y != 0) {
                long rest = x % y;
                x = y;
                y = rest;
            }
            long sign = bottom < 0 ? -1 : 1;
            this.top = sign * top / x;
            this.bottom = sign * bottom / x;
        }

        Frac(long whole) {
            this(whole, 1);
        }

        Frac plus(Frac o) {
            return new Frac(top * o.bottom + o.top * bottom, bottom * o.bottom);
        }

        Frac minus(Frac o) {
            return new Frac(top * o.bottom - o.top * bottom, bottom * o.bottom);
        }

        Frac times(long w) {
            return new Frac(top * w, bottom);
        }

        Frac over(Frac o) {
            return new Frac(top * o.bottom, bottom * o.top);
        }

        int part(int part) {
            return (int) (part == 0 ? top : bottom);
        }

        @Override
        public int compareTo(Frac o) {
            return Long.compare(top * o.bottom, o.top * bottom);
        }

        static Frac max(Frac a, Frac b) {
            return a.compareTo(b) >= 0 ? a : b;
        }

        static Frac min(Frac a, Frac b) {
            return a.compareTo(b) <= 0 ? a : b;
        }
    }

    record Spot(int edge, Frac t, Frac value) { }

    static final class Net {
        int[] weight = {1, 1, 1, 1};
        int[] trend = {0, 0, 0, 0};
        List<int[]> edges = new ArrayList<>();
        List<int[]> stretches = new ArrayList<>();

        Net copy() {
            Net c = new Net();
            c.weight = weight.clone();
            c.trend = trend.clone();
            for (int[] e : edges) {
                c.edges.add(e.clone());
            }
            for (int[] s : stretches) {
                c.stretches.add(s.clone());
            }
            return c;
        }

        int n() {
            return weight.length;
        }

        Net without(int edge) {
            Net c = copy();
            c.edges.remove(edge);
            c.stretches.removeIf(s -> s[0] == edge);
            for (int[] s : c.stretches) {
                if (s[0] > edge) {
                    s[0]--;
                }
            }
            return c;
        }

        /** Bellman and Ford's distances from a node; -1 where there is no path. */
        int[] from(int a) {
            int[] d = new int[n()];
            Arrays.fill(d, -1);
            d[a] = 0;
            for (int round = 0; round < n(); round++) {
                for (int[] e : edges) {
                    for (int way = 0; way < 2; way++) {
                        int x = e[way];
                        int y = e[1 - way];
                        if (d[x] >= 0 && (d[y] < 0 || d[x] + e[2] < d[y])) {
                            d[y] = d[x] + e[2];
                        }
                    }
                }
            }
            return d;
        }

        boolean connected() {
            return Arrays.stream(from(0)).allMatch(d -> d >= 0);
        }

        Frac far(int node, int edge, Frac t) {
            int[] d = from(node);
            int[] e = edges.get(edge);
            if (d[e[0]] < 0) {
                return null;
            }
            return Frac.min(new Frac(d[e[0]]).plus(t), new Frac(d[e[1]] + e[2]).minus(t));
        }

        boolean allowed(int edge, Frac t) {
            for (int[] s : stretches) {
                if (s[0] == edge && t.compareTo(new Frac(s[1])) > 0 && t.compareTo(new Frac(s[2])) < 0) {
                    return false;
                }
            }
            return true;
        }

        int[] changed(int s) {
            int[] w = weight.clone();
            for (int i = 0; i < w.length; i++) {
                w[i] += s * trend[i];
            }
            return w;
        }
    }

    /** A network with fixed weights, for which distances are kept and all turning points listed. */
    static final class View {
        final Net net;
        final int[] w;
        final int[][] d;
        final List<TreeSet<Frac>> turns = new ArrayList<>();
        final Frac[] radii = new Frac[256];

        View(Net net, int[] w) {
            this.net = net;
            this.w = w;
            d = new int[net.n()][];
            for (int i = 0; i < net.n(); i++) {
                d[i] = net.from(i);
            }
            for (int[] e : net.edges) {
                turns.add(turnsOf(e));
            }
            for (int i = 0; i < net.stretches.size(); i++) {
                int[] s = net.stretches.get(i);
                turns.get(s[0]).add(new Frac(s[1]));
                turns.get(s[0]).add(new Frac(s[2]));
            }
        }

        private TreeSet<Frac> turnsOf(int[] e) {
            TreeSet<Frac> result = new TreeSet<>();
            result.add(new Frac(0));
            result.add(new Frac(e[2]));
            List<long[]> lines = new ArrayList<>();
            for (int i = 0; i < net.n(); i++) {
                lines.add(new long[] {(long) w[i] * d[i][e[0]], w[i]});
                lines.add(new long[] {(long) w[i] * (d[i][e[1]] + e[2]), -w[i]});
            }
            for (long[] x : lines) {
                for (long[] y : lines) {
                    if (x[1] != y[1]) {
                        Frac t = new Frac(y[0] - x[0], x[1] - y[1]);
                        if (t.top > 0 && t.compareTo(new Frac(e[2])) < 0) {
                            result.add(t);
                        }
                    }
                }
            }
            return result;
        }

        Frac far(int node, int edge, Frac t) {
            int[] e = net.edges.get(edge);
            return Frac.min(new Frac(d[node][e[0]]).plus(t), new Frac(d[node][e[1]] + e[2]).minus(t));
        }

        Frac height(int set, int edge, Frac t) {
            Frac h = new Frac(0);
            for (int i = 0; i < net.n(); i++) {
                if ((set & 1 << i) != 0) {
                    h = Frac.max(h, far(i, edge, t).times(w[i]));
                }
            }
            return h;
        }

        Frac cost(int edge, Frac t) {
            Frac sum = new Frac(0);
            for (int i = 0; i < net.n(); i++) {
                sum = sum.plus(far(i, edge, t).times(w[i]));
            }
            return sum;
        }

        /** The first of the best spots in the order of edges and t; set -1 asks for the median. */
        Spot best(int set) {
            Spot best = null;
            for (int e = 0; e < net.edges.size(); e++) {
                for (Frac t : turns.get(e)) {
                    if (net.allowed(e, t)) {
                        Frac v = set < 0 ? cost(e, t) : height(set, e, t);
                        if (best == null || v.compareTo(best.value) < 0) {
                            best = new Spot(e, t, v);
                        }
                    }
                }
            }
            return best;
        }

        Frac radius(int set) {
            if (radii[set] == null) {
                radii[set] = best(set).value;
            }
            return radii[set];
        }

        int critical(int set) {
            Spot c = best(set);
            int result = 0;
            for (int i = 0; i < net.n(); i++) {
                if ((set & 1 << i) != 0 && far(i, c.edge, c.t).times(w[i]).compareTo(c.value) == 0) {
                    result |= 1 << i;
                }
            }
            return result;
        }

        /** Corners by slopes between neighbouring turning points. */
        List<Frac[]> corners(int edge) {
            List<Frac> ts = new ArrayList<>(turns.get(edge));
            int all = (1 << net.n()) - 1;
            List<Frac[]> result = new ArrayList<>();
            for (int i = 0; i < ts.size(); i++) {
                boolean end = i == 0 || i == ts.size() - 1;
                if (end || slope(all, edge, ts.get(i - 1), ts.get(i))
                        .compareTo(slope(all, edge, ts.get(i), ts.get(i + 1))) != 0) {
                    result.add(new Frac[] {ts.get(i), height(all, edge, ts.get(i))});
                }
            }
            return result;
        }

        private Frac slope(int set, int edge, Frac a, Frac b) {
            return height(set, edge, b).minus(height(set, edge, a)).over(b.minus(a));
        }

        /** The k-radius by trying where each node can go; null if there is none (k = 0, a set not empty). */
        Frac kRadius(int k, int set) {
            if (k == 0) {
                return set == 0 ? new Frac(0) : null;
            }
            return assign(new int[k], set, 0);
        }

        private Frac assign(int[] groups, int set, int node) {
            if (node == net.n()) {
                Frac worst = new Frac(0);
                for (int g : groups) {
                    worst = Frac.max(worst, radius(g));
                }
                return worst;
            }
            if ((set & 1 << node) == 0) {
                return assign(groups, set, node + 1);
            }
            Frac best = null;
            for (int g = 0; g < groups.length; g++) {
                groups[g] |= 1 << node;
                Frac found = assign(groups, set, node + 1);
                groups[g] &= ~(1 << node);
                best = best == null ? found : Frac.min(best, found);
            }
            return best;
        }

        int[] division(int k) {
            int left = (1 << net.n()) - 1;
            Frac bound = kRadius(k, left);
            int[] result = new int[k];
            for (int g = 0; g < k; g++) {
                if (g == k - 1) {
                    result[g] = left;
                    break;
                }
                for (int s = 255; s >= 0; s--) {
                    if ((s & ~left) != 0 || radius(s).compareTo(bound) > 0) {
                        continue;
                    }
                    Frac rest = kRadius(k - 1 - g, left & ~s);
                    if (rest != null && rest.compareTo(bound) <= 0) {
                        result[g] = s;
                        left &= ~s;
                        break;
                    }
                }
            }
            return result;
        }

        /** The least number of groups, by adding one node after the other to a group or to a new one. */
        int covering(Frac r) {
            return cover(new int[8], 0, 0, r);
        }

        private int cover(int[] groups, int used, int node, Frac r) {
            if (node == net.n()) {
                return used;
            }
            int best = 99;
            for (int g = 0; g <= used && g < 8; g++) {
                int before = groups[g];
                groups[g] |= 1 << node;
                if (radius(groups[g]).compareTo(r) <= 0) {
                    best = Math.min(best, cover(groups, Math.max(used, g + 1), node + 1, r));
                }
                groups[g] = before;
            }
            return best;
        }
    }

    Net net = new Net();
    final Deque<Net> records = new ArrayDeque<>();
    final StringBuilder text = new StringBuilder();
    private View view;

    private void index(boolean good) {
        if (!good) {
            throw new IndexOutOfBoundsException();
        }
    }

    private void argument(boolean good) {
        if (!good) {
            throw new IllegalArgumentException();
        }
    }

    private void state(boolean good) {
        if (!good) {
            throw new IllegalStateException();
        }
    }

    private void record(Net before) {
        records.addLast(before);
        if (records.size() > 6) {
            records.removeFirst();
        }
        view = null;
    }

    private View view() {
        if (view == null) {
            view = new View(net, net.weight);
        }
        return view;
    }

    private boolean isNode(int i) {
        return 0 <= i && i < net.n();
    }

    private boolean isEdge(int i) {
        return 0 <= i && i < net.edges.size();
    }

    private boolean isStretch(int i) {
        return 0 <= i && i < net.stretches.size();
    }

    private boolean isSet(int set) {
        return 0 <= set && set < 1 << net.n();
    }

    private boolean isPoint(int edge, int p, int q) {
        return 1 <= q && q <= 1000 && 0 <= p && p <= (long) q * net.edges.get(edge)[2];
    }

    private boolean in(int x, int low, int high) {
        return low <= x && x <= high;
    }

    private void needCenters() {
        state(net.connected() && !net.edges.isEmpty());
    }

    // ---- the changes, without records

    private void addEdge(int a, int b, int length) {
        index(isNode(a) && isNode(b));
        argument(a != b && in(length, 1, 50));
        boolean joined = net.edges.stream().anyMatch(e -> e[0] == a && e[1] == b || e[0] == b && e[1] == a);
        state(!joined && net.edges.size() < 12);
        net.edges.add(new int[] {a, b, length});
    }

    private void putValue(int[] values, int node, int value) {
        index(isNode(node));
        argument(in(value, 0, 9));
        values[node] = value;
    }

    private void addStretch(int edge, int a, int b) {
        index(isEdge(edge));
        argument(0 <= a && a < b && b <= net.edges.get(edge)[2]);
        state(net.stretches.size() < 6);
        net.stretches.add(new int[] {edge, a, b});
    }

    // ---- the calls, by their names; a boolean counts 1 or 0

    long call(String name, int[] x) {
        switch (name) {
            case "reset": return reset(x[0]);
            case "connect": return connect(x[0], x[1], x[2]);
            case "disconnect": return disconnect(x[0]);
            case "setWeight": return setWeight(x[0], x[1]);
            case "setTrend": return setTrend(x[0], x[1]);
            case "forbid": return forbid(x[0], x[1], x[2]);
            case "allow": return allow(x[0]);
            case "count": return count(x[0]);
            case "edge": return edge(x[0], x[1]);
            case "node": return node(x[0], x[1]);
            case "stretch": return stretch(x[0], x[1]);
            case "distance": return distance(x[0], x[1]);
            case "next": return next(x[0], x[1]);
            case "diameter": return diameter();
            case "distanceTo": return distanceTo(x[0], x[1], x[2], x[3], x[4]);
            case "isAllowed": return isAllowed(x[0], x[1], x[2]);
            case "height": return height(x[0], x[1], x[2], x[3], x[4]);
            case "cost": return cost(x[0], x[1], x[2], x[3]);
            case "corner": return corner(x[0], x[1], x[2]);
            case "radius": return radius(x[0], x[1]);
            case "center": return center(x[0], x[1]);
            case "critical": return critical(x[0]);
            case "median": return median(x[0]);
            case "radiusOf": return radiusOf(x[0], x[1]);
            case "group": return group(x[0], x[1]);
            case "covering": return covering(x[0], x[1]);
            case "covered": return covered(x[0], x[1], x[2]);
            case "changedRadius": return changedRadius(x[0], x[1]);
            case "radiusWithout": return radiusWithout(x[0], x[1]);
            case "type": return type(x[0]);
            case "clearText": return clearText();
            case "fault": return fault();
            case "run": return run();
            case "undo": return undo();
            case "checksum": return checksum();
            default: throw new AssertionError(name);
        }
    }

    int reset(int n) {
        argument(in(n, 1, 8));
        int before = net.n();
        record(net);
        net = new Net();
        net.weight = new int[n];
        Arrays.fill(net.weight, 1);
        net.trend = new int[n];
        return before;
    }

    int connect(int a, int b, int length) {
        Net before = net.copy();
        addEdge(a, b, length);
        record(before);
        return net.edges.size() - 1;
    }

    int disconnect(int edge) {
        index(isEdge(edge));
        Net before = net;
        net = net.without(edge);
        record(before);
        return before.stretches.size() - net.stretches.size();
    }

    int setWeight(int node, int value) {
        Net before = net.copy();
        putValue(net.weight, node, value);
        record(before);
        return before.weight[node];
    }

    int setTrend(int node, int value) {
        Net before = net.copy();
        putValue(net.trend, node, value);
        record(before);
        return before.trend[node];
    }

    int forbid(int edge, int a, int b) {
        Net before = net.copy();
        addStretch(edge, a, b);
        record(before);
        return net.stretches.size() - 1;
    }

    int allow(int stretch) {
        index(isStretch(stretch));
        record(net.copy());
        return net.stretches.remove(stretch)[0];
    }

    int count(int what) {
        argument(in(what, 0, 3));
        return new int[] {net.n(), net.edges.size(), net.stretches.size(), net.connected() ? 1 : 0}[what];
    }

    int edge(int edge, int what) {
        index(isEdge(edge));
        argument(in(what, 0, 2));
        return net.edges.get(edge)[what];
    }

    int node(int node, int what) {
        index(isNode(node));
        argument(in(what, 0, 2));
        int degree = (int) net.edges.stream().filter(e -> e[0] == node || e[1] == node).count();
        return new int[] {net.weight[node], net.trend[node], degree}[what];
    }

    int stretch(int stretch, int what) {
        index(isStretch(stretch));
        argument(in(what, 0, 2));
        return net.stretches.get(stretch)[what];
    }

    int distance(int a, int b) {
        index(isNode(a) && isNode(b));
        return net.from(a)[b];
    }

    int next(int a, int b) {
        index(isNode(a) && isNode(b));
        int way = net.from(a)[b];
        int lowest = 99;
        for (int[] e : net.edges) {
            for (int side = 0; side < 2 && a != b && way >= 0; side++) {
                int c = e[1 - side];
                if (e[side] == a && net.from(c)[b] >= 0 && e[2] + net.from(c)[b] == way) {
                    lowest = Math.min(lowest, c);
                }
            }
        }
        return lowest == 99 ? -1 : lowest;
    }

    int diameter() {
        int greatest = 0;
        for (int a = 0; a < net.n(); a++) {
            for (int d : net.from(a)) {
                if (d < 0) {
                    return -1;
                }
                greatest = Math.max(greatest, d);
            }
        }
        return greatest;
    }

    int distanceTo(int node, int edge, int p, int q, int part) {
        index(isNode(node) && isEdge(edge));
        argument(isPoint(edge, p, q) && in(part, 0, 1));
        Frac far = net.far(node, edge, new Frac(p, q));
        state(far != null);
        return far.part(part);
    }

    int isAllowed(int edge, int p, int q) {
        index(isEdge(edge));
        argument(isPoint(edge, p, q));
        return net.allowed(edge, new Frac(p, q)) ? 1 : 0;
    }

    int height(int set, int edge, int p, int q, int part) {
        index(isEdge(edge));
        argument(isSet(set) && isPoint(edge, p, q) && in(part, 0, 1));
        state(net.connected());
        return view().height(set, edge, new Frac(p, q)).part(part);
    }

    int cost(int edge, int p, int q, int part) {
        index(isEdge(edge));
        argument(isPoint(edge, p, q) && in(part, 0, 1));
        state(net.connected());
        return view().cost(edge, new Frac(p, q)).part(part);
    }

    int corner(int edge, int i, int what) {
        index(isEdge(edge));
        argument(in(what, 0, 3));
        state(net.connected());
        List<Frac[]> corners = view().corners(edge);
        return in(i, 0, corners.size() - 1) ? corners.get(i)[what / 2].part(what % 2) : -1;
    }

    int radius(int set, int part) {
        argument(isSet(set) && in(part, 0, 1));
        needCenters();
        return view().radius(set).part(part);
    }

    int center(int set, int what) {
        argument(isSet(set) && in(what, 0, 2));
        needCenters();
        Spot c = view().best(set);
        return what == 0 ? c.edge : c.t.part(what - 1);
    }

    int critical(int set) {
        argument(isSet(set));
        needCenters();
        return view().critical(set);
    }

    int median(int what) {
        argument(in(what, 0, 4));
        needCenters();
        Spot c = view().best(-1);
        return what == 0 ? c.edge : what < 3 ? c.t.part(what - 1) : c.value.part(what - 3);
    }

    int radiusOf(int k, int part) {
        argument(in(k, 1, 3) && in(part, 0, 1));
        needCenters();
        return view().kRadius(k, (1 << net.n()) - 1).part(part);
    }

    int group(int k, int i) {
        argument(in(k, 1, 3) && in(i, 0, k - 1));
        needCenters();
        return view().division(k)[i];
    }

    int covering(int p, int q) {
        argument(p >= 0 && in(q, 1, 1000));
        needCenters();
        return view().covering(new Frac(p, q));
    }

    int covered(int edge, int t, int r) {
        index(isEdge(edge));
        argument(in(t, 0, net.edges.get(edge)[2]) && r >= 0);
        state(net.connected());
        int result = 0;
        for (int i = 0; i < net.n(); i++) {
            if (view().far(i, edge, new Frac(t)).times(net.weight[i]).compareTo(new Frac(r)) <= 0) {
                result |= 1 << i;
            }
        }
        return result;
    }

    int changedRadius(int s, int part) {
        argument(in(s, 0, 10) && in(part, 0, 1));
        needCenters();
        return new View(net, net.changed(s)).radius((1 << net.n()) - 1).part(part);
    }

    int radiusWithout(int edge, int part) {
        index(isEdge(edge));
        argument(in(part, 0, 1));
        Net rest = net.without(edge);
        if (!rest.connected() || rest.edges.isEmpty()) {
            return -1;
        }
        return new View(rest, rest.weight).radius((1 << net.n()) - 1).part(part);
    }

    int type(int c) {
        argument(in(c, 32, 126));
        state(text.length() < 120);
        text.append((char) c);
        return text.length();
    }

    int clearText() {
        int before = text.length();
        text.setLength(0);
        return before;
    }

    private static final String NUMBER = " *([0-9]{1,2}) *";
    private static final String COMMAND = "(?:" + NUMBER + "-" + NUMBER + ":" + NUMBER + "; *"
            + "| *w" + NUMBER + "=" + NUMBER + "; *| *v" + NUMBER + "=" + NUMBER + "; *"
            + "| *x" + NUMBER + ":" + NUMBER + "-" + NUMBER + "; *)";
    private static final Pattern SCRIPT = Pattern.compile(" *(?:" + COMMAND + ")*+");
    private static final Pattern ONE = Pattern.compile(COMMAND);

    /** The first place up to which no script can begin so. */
    int fault() {
        for (int end = 1; end <= text.length(); end++) {
            Matcher m = SCRIPT.matcher(text.substring(0, end));
            if (!m.matches() && !m.hitEnd()) {
                return end - 1;
            }
        }
        return SCRIPT.matcher(text).matches() ? -1 : text.length();
    }

    int run() {
        argument(fault() == -1);
        Net before = net.copy();
        int done = 0;
        Matcher m = ONE.matcher(text);
        while (m.find()) {
            try {
                carryOut(m);
                done++;
            } catch (RuntimeException skipped) {
                // a command that would throw is skipped
            }
        }
        record(before);
        return done;
    }

    private void carryOut(Matcher m) {
        int[] v = new int[11];
        for (int i = 1; i <= 10; i++) {
            v[i] = m.group(i) == null ? -1 : Integer.parseInt(m.group(i));
        }
        if (v[1] >= 0) {
            addEdge(v[1], v[2], v[3]);
        } else if (v[4] >= 0) {
            putValue(net.weight, v[4], v[5]);
        } else if (v[6] >= 0) {
            putValue(net.trend, v[6], v[7]);
        } else {
            addStretch(v[8], v[9], v[10]);
        }
    }

    int undo() {
        state(!records.isEmpty());
        net = records.removeLast();
        view = null;
        return records.size();
    }

    long checksum() {
        List<Integer> v = new ArrayList<>();
        for (int what = 0; what < 4; what++) {
            v.add(count(what));
        }
        for (int i = 0; i < net.n(); i++) {
            for (int what = 0; what < 3; what++) {
                v.add(node(i, what));
            }
        }
        for (int i = 0; i < net.edges.size(); i++) {
            for (int what = 0; what < 3; what++) {
                v.add(edge(i, what));
            }
        }
        for (int i = 0; i < net.stretches.size(); i++) {
            for (int what = 0; what < 3; what++) {
                v.add(stretch(i, what));
            }
        }
        if (net.connected() && !net.edges.isEmpty()) {
            addCenters(v);
        }
        v.add(text.length());
        v.add(records.size());
        long h = 18473;
        for (int x : v) {
            h = 31 * h + x;
        }
        return h;
    }

    private void addCenters(List<Integer> v) {
        int all = (1 << net.n()) - 1;
        v.add(radius(all, 0));
        v.add(radius(all, 1));
        for (int what = 0; what < 3; what++) {
            v.add(center(all, what));
        }
        v.add(critical(all));
        for (int what = 0; what < 5; what++) {
            v.add(median(what));
        }
        v.add(radiusOf(2, 0));
        v.add(radiusOf(2, 1));
        for (int i = 0; i < net.edges.size(); i++) {
            for (int what = 0; what < 4; what++) {
                v.add(corner(i, 1, what));
            }
        }
    }
}
