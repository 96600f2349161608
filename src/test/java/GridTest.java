import java.util.ArrayList;
import java.util.Arrays;
import java.util.List;
import java.util.Random;
import java.util.TreeSet;

/**
 * Promises 13 to 30 without any thought about where heights can turn: all t = p / q with q up to 18 are tried.
 * Weights up to 9 let heights turn and cross at such t alone, so the best of these points is the best of all.
 * All numbers are counted in 1 / UNIT, which makes them whole. Arguments: networks, seed.
 */
public final class GridTest {
    private static final int FINEST = 18;
    /** The least number that all of 1 to 18 divide. */
    private static final long UNIT = 12252240L;
    /** Calls after which an object is put aside, far enough from the 512th. */
    private static final int ENOUGH = 450;

    private interface Call {
        long on(NetworkCenters x);
    }

    private static int checks;

    private final Random random;
    private int nodes;
    private int[] weights;
    private int[] trends;
    private final List<int[]> edges = new ArrayList<>();
    private final List<int[]> stretches = new ArrayList<>();
    /** For each edge the distances of its first and of its second node to all nodes. */
    private long[][] fromFirst;
    private long[][] fromSecond;
    private final List<long[]> grids = new ArrayList<>();
    /** For each set its radius, and edge and t of its center. */
    private final long[] radii = new long[256];
    private final int[] centerEdges = new int[256];
    private final long[] centerPlaces = new long[256];

    private NetworkCenters desk;
    private int calls;

    private GridTest(long seed) {
        random = new Random(seed);
    }

    public static void main(String[] args) {
        int networks = args.length > 0 ? Integer.parseInt(args[0]) : 60;
        long seed = args.length > 1 ? Long.parseLong(args[1]) : 1;
        for (int i = 0; i < networks; i++) {
            new GridTest(seed * 1000003 + i).check(2 + i % 7);
        }
        System.out.println("GridTest: " + checks + " answers of " + networks + " networks agree");
    }

    private void check(int size) {
        invent(size);
        measure(edges, stretches);
        distances();
        corners();
        weigh(weights, edges, stretches);
        centers();
        median();
        divisions();
        coverings();
        changed();
        without();
    }

    // ---- a made-up network, always connected

    private void invent(int size) {
        nodes = size;
        weights = new int[size];
        trends = new int[size];
        int most = random.nextInt(4) == 0 ? 1 : 9;
        for (int i = 0; i < size; i++) {
            weights[i] = random.nextInt(most + 1);
            trends[i] = random.nextInt(3);
        }
        for (int i = 1; i < size; i++) {
            join(random.nextInt(i), i);
        }
        for (int i = random.nextInt(20); i > 0; i--) {
            int a = random.nextInt(size);
            int b = random.nextInt(size);
            boolean joined = edges.stream().anyMatch(e -> e[0] == a && e[1] == b || e[0] == b && e[1] == a);
            if (a != b && !joined && edges.size() < 12) {
                join(a, b);
            }
        }
        for (int i = random.nextInt(7); i > 0; i--) {
            int edge = random.nextInt(edges.size());
            int length = edges.get(edge)[2];
            int a = random.nextInt(length);
            stretches.add(new int[] {edge, a, a + 1 + random.nextInt(length - a)});
        }
    }

    private void join(int a, int b) {
        boolean turned = random.nextBoolean();
        edges.add(new int[] {turned ? b : a, turned ? a : b, 1 + random.nextInt(9)});
    }

    private NetworkCenters desk() {
        if (desk == null || calls > ENOUGH) {
            desk = new NetworkCenters();
            desk.reset(nodes);
            for (int i = 0; i < nodes; i++) {
                desk.setWeight(i, weights[i]);
                desk.setTrend(i, trends[i]);
            }
            for (int[] e : edges) {
                desk.connect(e[0], e[1], e[2]);
            }
            for (int[] s : stretches) {
                desk.forbid(s[0], s[1], s[2]);
            }
            calls = 1 + nodes * 2 + edges.size() + stretches.size();
        }
        calls++;
        return desk;
    }

    // ---- what is compared

    private void due(String call, long want, Call made) {
        checks++;
        long got = made.on(desk());
        if (got != want) {
            complain(call, got, want);
        }
    }

    /** A fraction must have the value that is due, in lowest terms. */
    private void dueFraction(String call, long want, Call top, Call bottom) {
        checks++;
        long p = top.on(desk());
        long q = bottom.on(desk());
        boolean lowest = q > 0 && java.math.BigInteger.valueOf(p).gcd(java.math.BigInteger.valueOf(q)).intValue() == 1;
        if (!lowest || p * UNIT != want * q) {
            System.out.println(call + " answered " + p + " / " + q);
            complain(call, p, want);
        }
    }

    private void complain(String call, long got, long want) {
        StringBuilder text = new StringBuilder("nodes " + nodes + ", weights " + Arrays.toString(weights)
                + ", trends " + Arrays.toString(trends) + ", edges");
        edges.forEach(e -> text.append(' ').append(Arrays.toString(e)));
        text.append(", stretches");
        stretches.forEach(s -> text.append(' ').append(Arrays.toString(s)));
        System.out.println(text);
        System.out.println("GridTest: " + call + " answered " + got + ", due is " + want + " (fractions in 1 / " + UNIT + ")");
        System.exit(1);
    }

    // ---- distances, by walking all paths

    private boolean measure(List<int[]> edgeList, List<int[]> stretchList) {
        fromFirst = new long[edgeList.size()][];
        fromSecond = new long[edgeList.size()][];
        grids.clear();
        boolean connected = true;
        for (int e = 0; e < edgeList.size(); e++) {
            fromFirst[e] = walks(edgeList, edgeList.get(e)[0]);
            fromSecond[e] = walks(edgeList, edgeList.get(e)[1]);
            connected = connected && Arrays.stream(fromFirst[e]).allMatch(d -> d < Long.MAX_VALUE);
            grids.add(grid(edgeList.get(e)[2]));
        }
        return connected && !edgeList.isEmpty();
    }

    private long[] walks(List<int[]> edgeList, int start) {
        long[] shortest = new long[nodes];
        Arrays.fill(shortest, Long.MAX_VALUE);
        walk(edgeList, start, 0, 1 << start, shortest);
        return shortest;
    }

    private void walk(List<int[]> edgeList, int at, long length, int been, long[] shortest) {
        shortest[at] = Math.min(shortest[at], length);
        for (int[] e : edgeList) {
            int on = e[0] == at ? e[1] : e[1] == at ? e[0] : -1;
            if (on >= 0 && (been >> on & 1) == 0) {
                walk(edgeList, on, length + e[2], been | 1 << on, shortest);
            }
        }
    }

    private static long[] grid(int length) {
        TreeSet<Long> places = new TreeSet<>();
        for (int q = 1; q <= FINEST; q++) {
            for (int p = 0; p <= length * q; p++) {
                places.add(p * (UNIT / q));
            }
        }
        return places.stream().mapToLong(t -> t).toArray();
    }

    private long far(List<int[]> edgeList, int node, int edge, long t) {
        return Math.min(fromFirst[edge][node] * UNIT + t,
                (fromSecond[edge][node] + edgeList.get(edge)[2]) * UNIT - t);
    }

    private static boolean allowed(List<int[]> stretchList, int edge, long t) {
        return stretchList.stream().noneMatch(s -> s[0] == edge && t > s[1] * UNIT && t < s[2] * UNIT);
    }

    private void distances() {
        long greatest = 0;
        for (int a = 0; a < nodes; a++) {
            long[] ways = walks(edges, a);
            for (int b = 0; b < nodes; b++) {
                int from = a;
                int to = b;
                greatest = Math.max(greatest, ways[b]);
                due("distance(" + a + ", " + b + ")", ways[b], x -> x.distance(from, to));
                due("next(" + a + ", " + b + ")", next(a, b, ways[b]), x -> x.next(from, to));
            }
        }
        due("diameter()", greatest, NetworkCenters::diameter);
        for (int e = 0; e < edges.size(); e++) {
            points(e);
        }
    }

    private int next(int a, int b, long way) {
        int lowest = -1;
        for (int[] e : edges) {
            int on = e[0] == a ? e[1] : e[1] == a ? e[0] : -1;
            boolean begins = on >= 0 && a != b && e[2] + walks(edges, on)[b] == way;
            if (begins && (lowest < 0 || on < lowest)) {
                lowest = on;
            }
        }
        return lowest;
    }

    /** Some points of an edge: distances, heights, costs, whether they are allowed. */
    private void points(int edge) {
        for (int i = 0; i < 8; i++) {
            int q = 1 + random.nextInt(FINEST);
            int p = random.nextInt(edges.get(edge)[2] * q + 1);
            int node = random.nextInt(nodes);
            int set = random.nextInt(1 << nodes);
            long t = p * (UNIT / q);
            long height = 0;
            long cost = 0;
            for (int n = 0; n < nodes; n++) {
                long value = weights[n] * far(edges, n, edge, t);
                cost += value;
                height = (set >> n & 1) == 1 ? Math.max(height, value) : height;
            }
            String point = edge + ", " + p + ", " + q + ")";
            dueFraction("distanceTo(" + node + ", " + point, far(edges, node, edge, t),
                    x -> x.distanceTo(node, edge, p, q, 0), x -> x.distanceTo(node, edge, p, q, 1));
            dueFraction("height(" + set + ", " + point, height,
                    x -> x.height(set, edge, p, q, 0), x -> x.height(set, edge, p, q, 1));
            dueFraction("cost(" + point, cost, x -> x.cost(edge, p, q, 0), x -> x.cost(edge, p, q, 1));
            due("isAllowed(" + point, allowed(stretches, edge, t) ? 1 : 0, x -> x.isAllowed(edge, p, q) ? 1 : 0);
        }
        for (int t = 0; t <= edges.get(edge)[2]; t++) {
            int place = t;
            int r = random.nextInt(60);
            int set = 0;
            for (int n = 0; n < nodes; n++) {
                set |= weights[n] * far(edges, n, edge, t * UNIT) <= r * UNIT ? 1 << n : 0;
            }
            due("covered(" + edge + ", " + t + ", " + r + ")", set, x -> x.covered(edge, place, r));
        }
    }

    /** Between neighbours of the grid the height is straight, so slopes can be read off it. */
    private void corners() {
        for (int e = 0; e < edges.size(); e++) {
            int edge = e;
            long[] grid = grids.get(e);
            int found = 0;
            for (int i = 0; i < grid.length; i++) {
                if (i == 0 || i == grid.length - 1 || bends(edge, grid[i - 1], grid[i], grid[i + 1])) {
                    int number = found;
                    dueFraction("corner(" + e + ", " + number + ") t", grid[i],
                            x -> x.corner(edge, number, 0), x -> x.corner(edge, number, 1));
                    dueFraction("corner(" + e + ", " + number + ") height", topAt(edge, grid[i]),
                            x -> x.corner(edge, number, 2), x -> x.corner(edge, number, 3));
                    found++;
                }
            }
            int behind = found;
            due("corner(" + e + ", " + found + ")", -1, x -> x.corner(edge, behind, 0));
        }
    }

    private boolean bends(int edge, long a, long b, long c) {
        java.math.BigInteger before = product(topAt(edge, b) - topAt(edge, a), c - b);
        return !before.equals(product(topAt(edge, c) - topAt(edge, b), b - a));
    }

    private static java.math.BigInteger product(long x, long y) {
        return java.math.BigInteger.valueOf(x).multiply(java.math.BigInteger.valueOf(y));
    }

    private long topAt(int edge, long t) {
        long top = 0;
        for (int n = 0; n < nodes; n++) {
            top = Math.max(top, weights[n] * far(edges, n, edge, t));
        }
        return top;
    }

    // ---- centers

    /** Finds radius and center of each set: edges and t ascend, so the first of equal points stays. */
    private void weigh(int[] with, List<int[]> edgeList, List<int[]> stretchList) {
        Arrays.fill(radii, Long.MAX_VALUE);
        long[] heights = new long[1 << nodes];
        for (int e = 0; e < edgeList.size(); e++) {
            for (long t : grids.get(e)) {
                if (!allowed(stretchList, e, t)) {
                    continue;
                }
                for (int set = 0; set < heights.length; set++) {
                    int last = Integer.numberOfTrailingZeros(set);
                    heights[set] = set == 0 ? 0
                            : Math.max(heights[set & set - 1], with[last] * far(edgeList, last, e, t));
                    if (heights[set] < radii[set]) {
                        radii[set] = heights[set];
                        centerEdges[set] = e;
                        centerPlaces[set] = t;
                    }
                }
            }
        }
    }

    private void centers() {
        for (int s = 0; s < 1 << nodes; s++) {
            int set = s;
            int critical = 0;
            for (int n = 0; n < nodes; n++) {
                boolean at = weights[n] * far(edges, n, centerEdges[s], centerPlaces[s]) == radii[s];
                critical |= (s >> n & 1) == 1 && at ? 1 << n : 0;
            }
            dueFraction("radius(" + s + ")", radii[s], x -> x.radius(set, 0), x -> x.radius(set, 1));
            due("center(" + s + ", 0)", centerEdges[s], x -> x.center(set, 0));
            dueFraction("center(" + s + ")", centerPlaces[s], x -> x.center(set, 1), x -> x.center(set, 2));
            due("critical(" + s + ")", critical, x -> x.critical(set));
        }
    }

    private void median() {
        long least = Long.MAX_VALUE;
        int bestEdge = 0;
        long bestPlace = 0;
        for (int e = 0; e < edges.size(); e++) {
            for (long t : grids.get(e)) {
                long cost = 0;
                for (int n = 0; n < nodes; n++) {
                    cost += weights[n] * far(edges, n, e, t);
                }
                if (cost < least && allowed(stretches, e, t)) {
                    least = cost;
                    bestEdge = e;
                    bestPlace = t;
                }
            }
        }
        due("median(0)", bestEdge, x -> x.median(0));
        dueFraction("median(1)", bestPlace, x -> x.median(1), x -> x.median(2));
        dueFraction("median(3)", least, x -> x.median(3), x -> x.median(4));
    }

    // ---- several centers

    /** The k-radius of a set by all its divisions: each node goes into each group. */
    private long divided(int k, int set) {
        if (k == 0) {
            return set == 0 ? 0 : Long.MAX_VALUE;
        }
        int[] members = new int[Integer.bitCount(set)];
        for (int n = 0, m = 0; n < nodes; n++) {
            if ((set >> n & 1) == 1) {
                members[m++] = n;
            }
        }
        long ways = Math.round(Math.pow(k, members.length));
        long least = Long.MAX_VALUE;
        for (long way = 0; way < ways; way++) {
            int[] groups = new int[k];
            long rest = way;
            for (int member : members) {
                groups[(int) (rest % k)] |= 1 << member;
                rest /= k;
            }
            long worst = 0;
            for (int group : groups) {
                worst = Math.max(worst, radii[group]);
            }
            least = Math.min(least, worst);
        }
        return least;
    }

    private void divisions() {
        int all = (1 << nodes) - 1;
        for (int k = 1; k <= 3; k++) {
            int centers = k;
            long bound = divided(k, all);
            dueFraction("radiusOf(" + k + ")", bound, x -> x.radiusOf(centers, 0), x -> x.radiusOf(centers, 1));
            int left = all;
            for (int i = 0; i < k; i++) {
                int group = i;
                int chosen = i == k - 1 ? left : first(left, k - i, bound);
                left -= chosen;
                due("group(" + k + ", " + i + ")", chosen, x -> x.group(centers, group));
            }
        }
    }

    private int first(int left, int k, long bound) {
        int greatest = -1;
        for (int set = 0; set <= left; set++) {
            boolean inside = (set & left) == set && radii[set] <= bound;
            if (inside && divided(k - 1, left - set) <= bound) {
                greatest = set;
            }
        }
        return greatest;
    }

    private void coverings() {
        for (int i = 0; i < 12; i++) {
            int q = 1 + random.nextInt(FINEST);
            int p = i == 0 ? 0 : random.nextInt(40 * q);
            long r = p * (UNIT / q);
            due("covering(" + p + ", " + q + ")", fewest((1 << nodes) - 1, r), x -> x.covering(p, q));
        }
    }

    /** The group of the lowest node is tried in all ways, then those of the rest. */
    private int fewest(int set, long r) {
        if (set == 0) {
            return 0;
        }
        int least = 9;
        for (int group = set; group > 0; group = group - 1 & set) {
            boolean hasLowest = (group & Integer.lowestOneBit(set)) != 0;
            if (hasLowest && radii[group] <= r) {
                least = Math.min(least, 1 + fewest(set - group, r));
            }
        }
        return least;
    }

    // ---- other weights, other edges

    private void changed() {
        for (int s = 0; s <= 10; s++) {
            int parameter = s;
            int[] with = new int[nodes];
            for (int n = 0; n < nodes; n++) {
                with[n] = weights[n] + s * trends[n];
            }
            if (Arrays.stream(with).max().orElse(0) <= 9) {
                weigh(with, edges, stretches);
                dueFraction("changedRadius(" + s + ")", radii[(1 << nodes) - 1],
                        x -> x.changedRadius(parameter, 0), x -> x.changedRadius(parameter, 1));
            }
        }
    }

    private void without() {
        for (int e = 0; e < edges.size(); e++) {
            int edge = e;
            List<int[]> otherEdges = new ArrayList<>(edges);
            otherEdges.remove(e);
            List<int[]> otherStretches = new ArrayList<>();
            for (int[] s : stretches) {
                if (s[0] != e) {
                    otherStretches.add(new int[] {s[0] > e ? s[0] - 1 : s[0], s[1], s[2]});
                }
            }
            if (measure(otherEdges, otherStretches)) {
                weigh(weights, otherEdges, otherStretches);
                dueFraction("radiusWithout(" + e + ")", radii[(1 << nodes) - 1],
                        x -> x.radiusWithout(edge, 0), x -> x.radiusWithout(edge, 1));
            } else {
                due("radiusWithout(" + e + ", 0)", -1, x -> x.radiusWithout(edge, 0));
                due("radiusWithout(" + e + ", 1)", -1, x -> x.radiusWithout(edge, 1));
            }
        }
    }
}
