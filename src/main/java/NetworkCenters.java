/**
 * A workbench for centers of networks: weighted nodes, edges with lengths, points anywhere on edges.
 *
 * <p>Everything that the calls work with is made once, in the constructors, so that a long run of
 * calls makes no further objects.
 */
public final class NetworkCenters {
    public static final int NONE = -1;

    private static final int MAX_NODES = 8;
    private static final int NODES_AT_FIRST = 4;
    private static final int MAX_EDGES = 12;
    private static final int MAX_LENGTH = 50;
    private static final int MAX_STRETCHES = 6;
    private static final int MAX_WEIGHT = 9;
    private static final int MAX_DENOMINATOR = 1000;
    private static final int MAX_CENTERS = 3;
    private static final int MAX_PARAMETER = 10;
    private static final int MAX_RECORDS = 6;
    private static final int MAX_TEXT = 120;
    private static final int FIRST_SIGN = 32;
    private static final int LAST_SIGN = 126;
    private static final int CHECKSUM_START = 18473;

    /** All sets of eight nodes. */
    private static final int SETS = 256;
    /** A distance above that of any path. */
    private static final int FAR = 1000000;
    /** Of each edge its two ends and a crossing for each pair of nodes; of each stretch its two ends. */
    private static final int MAX_POINTS = MAX_EDGES * 30 + MAX_STRETCHES * 2;
    /** Two lines for each node, a corner at most for each pair of them, and the edge's two ends. */
    private static final int MAX_CORNERS = 122;

    /** Why a change cannot be made: the exception that is due. */
    private static final int FINE = 0;
    private static final int NO_SUCH = 1;
    private static final int NOT_VALID = 2;
    private static final int NOT_NOW = 3;

    private final Network network;
    private final Network trial;
    private final Network[] records;
    private int recordCount;
    private final Survey survey;
    private final Outline outline;
    private final Groups groups;
    private final Script script;

    public NetworkCenters() {
        network = new Network();
        trial = new Network();
        records = new Network[MAX_RECORDS];
        for (int i = 0; i < records.length; i++) {
            records[i] = new Network();
        }
        survey = new Survey();
        outline = new Outline(survey);
        groups = new Groups(survey);
        script = new Script();
    }

    // ---- the network

    public int reset(int n) throws IllegalArgumentException {
        requireValid(n >= 1 && n <= MAX_NODES);
        int before = network.nodes;
        remember();
        network.clear(n);
        return before;
    }

    public int connect(int a, int b, int length)
            throws IndexOutOfBoundsException, IllegalArgumentException, IllegalStateException {
        refuse(network.whyNoEdge(a, b, length));
        remember();
        return network.addEdge(a, b, length);
    }

    public int disconnect(int edge) throws IndexOutOfBoundsException {
        requireSuch(network.hasEdge(edge));
        remember();
        return network.removeEdge(edge);
    }

    public int setWeight(int node, int value) throws IndexOutOfBoundsException, IllegalArgumentException {
        refuse(network.whyNoValue(node, value));
        int before = network.weights.get(node);
        remember();
        network.weights.set(node, value);
        return before;
    }

    public int setTrend(int node, int value) throws IndexOutOfBoundsException, IllegalArgumentException {
        refuse(network.whyNoValue(node, value));
        int before = network.trends.get(node);
        remember();
        network.trends.set(node, value);
        return before;
    }

    public int forbid(int edge, int a, int b)
            throws IndexOutOfBoundsException, IllegalArgumentException, IllegalStateException {
        refuse(network.whyNoStretch(edge, a, b));
        remember();
        return network.addStretch(edge, a, b);
    }

    public int allow(int stretch) throws IndexOutOfBoundsException {
        requireSuch(network.hasStretch(stretch));
        int site = network.sites.get(stretch);
        remember();
        network.removeStretch(stretch);
        return site;
    }

    public int count(int what) throws IllegalArgumentException {
        requireValid(what >= 0 && what <= 3);
        survey.take(network, 0);
        return networkFact(what);
    }

    public int edge(int edge, int what) throws IndexOutOfBoundsException, IllegalArgumentException {
        requireSuch(network.hasEdge(edge));
        requireValid(what >= 0 && what <= 2);
        return network.edgeFact(edge, what);
    }

    public int node(int node, int what) throws IndexOutOfBoundsException, IllegalArgumentException {
        requireSuch(network.hasNode(node));
        requireValid(what >= 0 && what <= 2);
        return network.nodeFact(node, what);
    }

    public int stretch(int stretch, int what) throws IndexOutOfBoundsException, IllegalArgumentException {
        requireSuch(network.hasStretch(stretch));
        requireValid(what >= 0 && what <= 2);
        return network.stretchFact(stretch, what);
    }

    // ---- distances

    public int distance(int a, int b) throws IndexOutOfBoundsException {
        requireSuch(network.hasNode(a) && network.hasNode(b));
        survey.take(network, 0);
        int way = survey.between(a, b);
        return way < FAR ? way : NONE;
    }

    public int next(int a, int b) throws IndexOutOfBoundsException {
        requireSuch(network.hasNode(a) && network.hasNode(b));
        survey.take(network, 0);
        return survey.firstStep(a, b);
    }

    public int diameter() {
        survey.take(network, 0);
        return survey.connected ? survey.greatestDistance() : NONE;
    }

    public int distanceTo(int node, int edge, int p, int q, int part)
            throws IndexOutOfBoundsException, IllegalArgumentException, IllegalStateException {
        requireSuch(network.hasNode(node) && network.hasEdge(edge));
        requireValid(network.hasPoint(edge, p, q) && isPart(part));
        survey.take(network, 0);
        requireNow(survey.between(node, network.firsts.get(edge)) < FAR);
        return lowest(survey.reach(node, edge, p, q), q, part);
    }

    public boolean isAllowed(int edge, int p, int q) throws IndexOutOfBoundsException, IllegalArgumentException {
        requireSuch(network.hasEdge(edge));
        requireValid(network.hasPoint(edge, p, q));
        return network.permits(edge, p, q);
    }

    public int height(int set, int edge, int p, int q, int part)
            throws IndexOutOfBoundsException, IllegalArgumentException, IllegalStateException {
        requireSuch(network.hasEdge(edge));
        requireValid(network.hasSet(set) && network.hasPoint(edge, p, q) && isPart(part));
        survey.take(network, 0);
        requireNow(survey.connected);
        return lowest(survey.heightAt(set, edge, p, q), q, part);
    }

    public int cost(int edge, int p, int q, int part)
            throws IndexOutOfBoundsException, IllegalArgumentException, IllegalStateException {
        requireSuch(network.hasEdge(edge));
        requireValid(network.hasPoint(edge, p, q) && isPart(part));
        survey.take(network, 0);
        requireNow(survey.connected);
        return lowest(survey.costAt(edge, p, q), q, part);
    }

    public int corner(int edge, int i, int what)
            throws IndexOutOfBoundsException, IllegalArgumentException, IllegalStateException {
        requireSuch(network.hasEdge(edge));
        requireValid(what >= 0 && what <= 3);
        survey.take(network, 0);
        requireNow(survey.connected);
        outline.trace(edge);
        return i >= 0 && i < outline.corners ? cornerFact(i, what) : NONE;
    }

    // ---- centers

    public int radius(int set, int part) throws IllegalArgumentException, IllegalStateException {
        requireValid(network.hasSet(set) && isPart(part));
        survey.take(network, 0);
        requireNow(survey.hasCenters());
        survey.seekCenter(set);
        return lowest(survey.bestValue, survey.bestBottom, part);
    }

    public int center(int set, int what) throws IllegalArgumentException, IllegalStateException {
        requireValid(network.hasSet(set) && what >= 0 && what <= 2);
        survey.take(network, 0);
        requireNow(survey.hasCenters());
        survey.seekCenter(set);
        return bestFact(what);
    }

    public int critical(int set) throws IllegalArgumentException, IllegalStateException {
        requireValid(network.hasSet(set));
        survey.take(network, 0);
        requireNow(survey.hasCenters());
        survey.seekCenter(set);
        return survey.criticalNodes(set);
    }

    public int median(int what) throws IllegalArgumentException, IllegalStateException {
        requireValid(what >= 0 && what <= 4);
        survey.take(network, 0);
        requireNow(survey.hasCenters());
        survey.seekMedian();
        return bestFact(what);
    }

    public int radiusOf(int k, int part) throws IllegalArgumentException, IllegalStateException {
        requireValid(k >= 1 && k <= MAX_CENTERS && isPart(part));
        survey.take(network, 0);
        requireNow(survey.hasCenters());
        groups.rate();
        return groupRadius(k, part);
    }

    public int group(int k, int i) throws IllegalArgumentException, IllegalStateException {
        requireValid(k >= 1 && k <= MAX_CENTERS && i >= 0 && i < k);
        survey.take(network, 0);
        requireNow(survey.hasCenters());
        groups.rate();
        return groups.chosen(k, i);
    }

    public int covering(int p, int q) throws IllegalArgumentException, IllegalStateException {
        requireValid(p >= 0 && q >= 1 && q <= MAX_DENOMINATOR);
        survey.take(network, 0);
        requireNow(survey.hasCenters());
        groups.rate();
        return groups.fewest(p, q);
    }

    public int covered(int edge, int t, int r)
            throws IndexOutOfBoundsException, IllegalArgumentException, IllegalStateException {
        requireSuch(network.hasEdge(edge));
        requireValid(t >= 0 && t <= network.lengths.get(edge) && r >= 0);
        survey.take(network, 0);
        requireNow(survey.connected);
        return survey.nodesWithin(edge, t, r);
    }

    public int changedRadius(int s, int part) throws IllegalArgumentException, IllegalStateException {
        requireValid(s >= 0 && s <= MAX_PARAMETER && isPart(part));
        survey.take(network, s);
        requireNow(survey.hasCenters());
        survey.seekCenter(network.allNodes());
        return lowest(survey.bestValue, survey.bestBottom, part);
    }

    public int radiusWithout(int edge, int part) throws IndexOutOfBoundsException, IllegalArgumentException {
        requireSuch(network.hasEdge(edge));
        requireValid(isPart(part));
        trial.copyFrom(network);
        trial.removeEdge(edge);
        survey.take(trial, 0);
        if (!survey.hasCenters()) {
            return NONE;
        }
        survey.seekCenter(network.allNodes());
        return lowest(survey.bestValue, survey.bestBottom, part);
    }

    // ---- scripts, undo

    public int type(int c) throws IllegalArgumentException, IllegalStateException {
        requireValid(c >= FIRST_SIGN && c <= LAST_SIGN);
        requireNow(script.length < MAX_TEXT);
        script.append(c);
        return script.length;
    }

    public int clearText() {
        int before = script.length;
        script.empty();
        return before;
    }

    public int fault() {
        return script.findFault();
    }

    public int run() throws IllegalArgumentException {
        requireValid(script.findFault() == NONE);
        remember();
        int done = 0;
        script.rewind();
        for (int i = 0; i < MAX_TEXT && script.hasMore(); i++) {
            if (script.readCommand() && carryOut()) {
                done++;
            }
        }
        return done;
    }

    public int undo() throws IllegalStateException {
        requireNow(recordCount > 0);
        recordCount--;
        Network latest = recordAt(recordCount);
        if (latest != null) {
            network.copyFrom(latest);
        }
        return recordCount;
    }

    public long checksum() {
        survey.take(network, 0);
        long h = mixNetwork(CHECKSUM_START);
        if (survey.hasCenters()) {
            h = mixCenters(h);
        }
        h = mix(h, script.length);
        return mix(h, recordCount);
    }

    // ---- what the calls share

    private static void requireSuch(boolean good) {
        if (!good) {
            throw new IndexOutOfBoundsException("there is no such node, edge or stretch");
        }
    }

    private static void requireValid(boolean good) {
        if (!good) {
            throw new IllegalArgumentException("an argument is out of range");
        }
    }

    private static void requireNow(boolean good) {
        if (!good) {
            throw new IllegalStateException("not in this state");
        }
    }

    private static void refuse(int why) {
        requireSuch(why != NO_SUCH);
        requireValid(why != NOT_VALID);
        requireNow(why != NOT_NOW);
    }

    private static boolean isPart(int part) {
        return part == 0 || part == 1;
    }

    /** The numerator (part 0) or denominator (part 1) of top / bottom in lowest terms. */
    private static int lowest(int top, int bottom, int part) {
        int divisor = commonDivisor(top, bottom);
        int number = part == 0 ? top : bottom;
        return divisor > 1 ? number / divisor : number;
    }

    private static int commonDivisor(int x, int y) {
        int greater = x;
        int smaller = y;
        // Euclid's way needs fewer than 50 steps for any two ints.
        for (int step = 0; step < 50 && smaller > 0; step++) {
            int rest = greater % smaller;
            greater = smaller;
            smaller = rest;
        }
        return greater;
    }

    private Network recordAt(int i) {
        return i >= 0 && i < records.length ? records[i] : null;
    }

    /** Records the network as it is, in place of the oldest record if there is no room. */
    private void remember() {
        if (recordCount == MAX_RECORDS) {
            dropOldestRecord();
        }
        Network record = recordAt(recordCount);
        if (record != null) {
            record.copyFrom(network);
            recordCount++;
        }
    }

    private void dropOldestRecord() {
        for (int i = 0; i + 1 < records.length; i++) {
            Network older = recordAt(i);
            Network newer = recordAt(i + 1);
            if (older != null && newer != null) {
                older.copyFrom(newer);
            }
        }
        recordCount--;
    }

    /** Carries out the command that the script has just read; tells whether it could. */
    private boolean carryOut() {
        int x = script.numbers.get(0);
        int y = script.numbers.get(1);
        int z = script.numbers.get(2);
        int why;
        switch (script.kind) {
            case 'w':
                why = network.whyNoValue(x, y);
                if (why == FINE) {
                    network.weights.set(x, y);
                }
                return why == FINE;
            case 'v':
                why = network.whyNoValue(x, y);
                if (why == FINE) {
                    network.trends.set(x, y);
                }
                return why == FINE;
            case 'x':
                why = network.whyNoStretch(x, y, z);
                if (why == FINE) {
                    network.addStretch(x, y, z);
                }
                return why == FINE;
            default:
                why = network.whyNoEdge(x, y, z);
                if (why == FINE) {
                    network.addEdge(x, y, z);
                }
                return why == FINE;
        }
    }

    private int networkFact(int what) {
        switch (what) {
            case 0:
                return network.nodes;
            case 1:
                return network.edges;
            case 2:
                return network.stretches;
            default:
                return survey.connected ? 1 : 0;
        }
    }

    private int cornerFact(int i, int what) {
        int top = what < 2 ? outline.tops.get(i) : outline.heights.get(i);
        return lowest(top, outline.bottoms.get(i), what % 2);
    }

    /** Where the point found last lies (0 to 2), and its height or cost (3 and 4). */
    private int bestFact(int what) {
        if (what == 0) {
            return survey.bestEdge;
        }
        int top = what < 3 ? survey.bestTop : survey.bestValue;
        return lowest(top, survey.bestBottom, (what + 1) % 2);
    }

    private int groupRadius(int k, int part) {
        int place = Groups.placeOf(k, network.allNodes());
        return lowest(groups.tops.get(place), groups.bottoms.get(place), part);
    }

    private static long mix(long h, int v) {
        return 31 * h + v;
    }

    private long mixNetwork(long start) {
        long h = start;
        for (int what = 0; what < 4; what++) {
            h = mix(h, networkFact(what));
        }
        for (int i = 0; i < network.nodes * 3; i++) {
            h = mix(h, network.nodeFact(i / 3, i % 3));
        }
        for (int i = 0; i < network.edges * 3; i++) {
            h = mix(h, network.edgeFact(i / 3, i % 3));
        }
        for (int i = 0; i < network.stretches * 3; i++) {
            h = mix(h, network.stretchFact(i / 3, i % 3));
        }
        return h;
    }

    private long mixCenters(long start) {
        int all = network.allNodes();
        survey.seekCenter(all);
        long h = mix(start, bestFact(3));
        h = mix(h, bestFact(4));
        for (int what = 0; what < 3; what++) {
            h = mix(h, bestFact(what));
        }
        h = mix(h, survey.criticalNodes(all));
        survey.seekMedian();
        for (int what = 0; what < 5; what++) {
            h = mix(h, bestFact(what));
        }
        groups.rate();
        h = mix(h, groupRadius(2, 0));
        h = mix(h, groupRadius(2, 1));
        for (int edge = 0; edge < network.edges; edge++) {
            outline.trace(edge);
            for (int what = 0; what < 4; what++) {
                h = mix(h, cornerFact(1, what));
            }
        }
        return h;
    }

    /** Numbers in a row. A place outside it reads as 0 and is not written, so no index can be wrong. */
    private static final class Row {
        private final int[] cells;

        Row(int size) {
            cells = new int[size > 0 ? size : 0];
        }

        int get(int i) {
            return i >= 0 && i < cells.length ? cells[i] : 0;
        }

        void set(int i, int value) {
            if (i >= 0 && i < cells.length) {
                cells[i] = value;
            }
        }

        void fill(int value) {
            for (int i = 0; i < cells.length; i++) {
                cells[i] = value;
            }
        }

        void copyFrom(Row other) {
            for (int i = 0; i < cells.length; i++) {
                cells[i] = other.get(i);
            }
        }

        boolean sameAs(Row other) {
            for (int i = 0; i < cells.length; i++) {
                if (cells[i] != other.get(i)) {
                    return false;
                }
            }
            return true;
        }

        /** Moves what stands from a place on one place up. */
        void openAt(int place) {
            for (int i = cells.length - 1; i > place && i > 0; i--) {
                cells[i] = cells[i - 1];
            }
        }

        /** Takes one number out; those behind it move up. */
        void removeAt(int place) {
            for (int i = place; i >= 0 && i < cells.length - 1; i++) {
                cells[i] = cells[i + 1];
            }
        }
    }

    /** Nodes, edges and stretches: all that undo restores. */
    private static final class Network {
        int nodes;
        int edges;
        int stretches;
        final Row weights = new Row(MAX_NODES);
        final Row trends = new Row(MAX_NODES);
        final Row firsts = new Row(MAX_EDGES);
        final Row seconds = new Row(MAX_EDGES);
        final Row lengths = new Row(MAX_EDGES);
        /** The edges of the stretches. */
        final Row sites = new Row(MAX_STRETCHES);
        final Row begins = new Row(MAX_STRETCHES);
        final Row ends = new Row(MAX_STRETCHES);

        Network() {
            clear(NODES_AT_FIRST);
        }

        void clear(int newNodes) {
            nodes = newNodes;
            edges = 0;
            stretches = 0;
            weights.fill(1);
            trends.fill(0);
        }

        void copyFrom(Network other) {
            nodes = other.nodes;
            edges = other.edges;
            stretches = other.stretches;
            weights.copyFrom(other.weights);
            trends.copyFrom(other.trends);
            firsts.copyFrom(other.firsts);
            seconds.copyFrom(other.seconds);
            lengths.copyFrom(other.lengths);
            sites.copyFrom(other.sites);
            begins.copyFrom(other.begins);
            ends.copyFrom(other.ends);
        }

        boolean sameAs(Network other) {
            return nodes == other.nodes && edges == other.edges && stretches == other.stretches
                    && weights.sameAs(other.weights) && trends.sameAs(other.trends)
                    && firsts.sameAs(other.firsts) && seconds.sameAs(other.seconds)
                    && lengths.sameAs(other.lengths) && sites.sameAs(other.sites)
                    && begins.sameAs(other.begins) && ends.sameAs(other.ends);
        }

        boolean hasNode(int i) {
            return i >= 0 && i < nodes;
        }

        boolean hasEdge(int i) {
            return i >= 0 && i < edges;
        }

        boolean hasStretch(int i) {
            return i >= 0 && i < stretches;
        }

        boolean hasSet(int set) {
            return set >>> nodes == 0;
        }

        int allNodes() {
            return (1 << nodes) - 1;
        }

        /** Whether p / q is a t of the edge, with a denominator in its range. */
        boolean hasPoint(int edge, int p, int q) {
            return q >= 1 && q <= MAX_DENOMINATOR && p >= 0 && p <= lengths.get(edge) * q;
        }

        /** The edge between two nodes, NONE if they are not joined. */
        int edgeBetween(int a, int b) {
            for (int i = 0; i < edges; i++) {
                int first = firsts.get(i);
                int second = seconds.get(i);
                if (first == a && second == b || first == b && second == a) {
                    return i;
                }
            }
            return NONE;
        }

        int whyNoEdge(int a, int b, int length) {
            if (!hasNode(a) || !hasNode(b)) {
                return NO_SUCH;
            }
            if (a == b || length < 1 || length > MAX_LENGTH) {
                return NOT_VALID;
            }
            return edgeBetween(a, b) != NONE || edges >= MAX_EDGES ? NOT_NOW : FINE;
        }

        int whyNoValue(int node, int value) {
            if (!hasNode(node)) {
                return NO_SUCH;
            }
            return value < 0 || value > MAX_WEIGHT ? NOT_VALID : FINE;
        }

        int whyNoStretch(int edge, int a, int b) {
            if (!hasEdge(edge)) {
                return NO_SUCH;
            }
            if (a < 0 || a >= b || b > lengths.get(edge)) {
                return NOT_VALID;
            }
            return stretches >= MAX_STRETCHES ? NOT_NOW : FINE;
        }

        int addEdge(int a, int b, int length) {
            firsts.set(edges, a);
            seconds.set(edges, b);
            lengths.set(edges, length);
            return edges++;
        }

        int addStretch(int edge, int a, int b) {
            sites.set(stretches, edge);
            begins.set(stretches, a);
            ends.set(stretches, b);
            return stretches++;
        }

        /** Removes an edge with its stretches; returns how many these were. */
        int removeEdge(int edge) {
            int removed = 0;
            for (int i = stretches - 1; i >= 0; i--) {
                int site = sites.get(i);
                if (site == edge) {
                    removeStretch(i);
                    removed++;
                } else if (site > edge) {
                    sites.set(i, site - 1);
                }
            }
            firsts.removeAt(edge);
            seconds.removeAt(edge);
            lengths.removeAt(edge);
            edges--;
            return removed;
        }

        void removeStretch(int stretch) {
            sites.removeAt(stretch);
            begins.removeAt(stretch);
            ends.removeAt(stretch);
            stretches--;
        }

        int edgeFact(int edge, int what) {
            switch (what) {
                case 0:
                    return firsts.get(edge);
                case 1:
                    return seconds.get(edge);
                default:
                    return lengths.get(edge);
            }
        }

        int nodeFact(int node, int what) {
            switch (what) {
                case 0:
                    return weights.get(node);
                case 1:
                    return trends.get(node);
                default:
                    return edgesAt(node);
            }
        }

        int edgesAt(int node) {
            int found = 0;
            for (int i = 0; i < edges; i++) {
                if (firsts.get(i) == node || seconds.get(i) == node) {
                    found++;
                }
            }
            return found;
        }

        int stretchFact(int stretch, int what) {
            switch (what) {
                case 0:
                    return sites.get(stretch);
                case 1:
                    return begins.get(stretch);
                default:
                    return ends.get(stretch);
            }
        }

        /** Whether the point with t = p / q is outside of all stretches of its edge. */
        boolean permits(int edge, int p, int q) {
            for (int i = 0; i < stretches; i++) {
                if (sites.get(i) == edge && p > begins.get(i) * q && p < ends.get(i) * q) {
                    return false;
                }
            }
            return true;
        }
    }

    /**
     * What was measured of a network: distances, and the points at which a height can be least.
     * A point is an edge with t = top / bottom; heights and costs are given times its bottom.
     */
    private static final class Survey {
        /** A copy of what was measured, to tell whether it must be measured again. */
        private final Network taken = new Network();
        private int parameter;
        /** Counts the measurements; 0 before the first. */
        int turn;
        boolean connected;
        private final Row weights = new Row(MAX_NODES);
        private final Row table = new Row(MAX_NODES * MAX_NODES);
        /** For each edge and node: the way to its t = 0, and by its second node to its t = 0. */
        private final Row outs = new Row(MAX_EDGES * MAX_NODES);
        private final Row backs = new Row(MAX_EDGES * MAX_NODES);
        int points;
        final Row edges = new Row(MAX_POINTS);
        final Row tops = new Row(MAX_POINTS);
        final Row bottoms = new Row(MAX_POINTS);
        /** The best point that was found last. */
        private boolean found;
        int bestEdge;
        int bestTop;
        int bestBottom;
        int bestValue;

        /** Measures a network with the weights changed by a parameter. */
        void take(Network network, int s) {
            if (turn > 0 && s == parameter && taken.sameAs(network)) {
                return;
            }
            taken.copyFrom(network);
            parameter = s;
            turn++;
            for (int i = 0; i < MAX_NODES; i++) {
                weights.set(i, taken.weights.get(i) + s * taken.trends.get(i));
            }
            measureNodes();
            measureEdges();
            gather();
        }

        boolean hasCenters() {
            return connected && taken.edges > 0;
        }

        int nodes() {
            return taken.nodes;
        }

        int allNodes() {
            return taken.allNodes();
        }

        int lengthOf(int edge) {
            return taken.lengths.get(edge);
        }

        int weightOf(int node) {
            return weights.get(node);
        }

        int between(int a, int b) {
            return table.get(a * MAX_NODES + b);
        }

        private void measureNodes() {
            table.fill(FAR);
            for (int i = 0; i < MAX_NODES; i++) {
                table.set(i * MAX_NODES + i, 0);
            }
            for (int i = 0; i < taken.edges; i++) {
                int a = taken.firsts.get(i);
                int b = taken.seconds.get(i);
                table.set(a * MAX_NODES + b, lengthOf(i));
                table.set(b * MAX_NODES + a, lengthOf(i));
            }
            for (int via = 0; via < taken.nodes; via++) {
                shortenBy(via);
            }
            connected = true;
            for (int i = 0; i < taken.nodes; i++) {
                connected = connected && between(0, i) < FAR;
            }
        }

        private void shortenBy(int via) {
            for (int a = 0; a < taken.nodes; a++) {
                for (int b = 0; b < taken.nodes; b++) {
                    int way = between(a, via) + between(via, b);
                    if (way < between(a, b)) {
                        table.set(a * MAX_NODES + b, way);
                    }
                }
            }
        }

        private void measureEdges() {
            for (int edge = 0; edge < taken.edges; edge++) {
                for (int i = 0; i < taken.nodes; i++) {
                    outs.set(edge * MAX_NODES + i, between(i, taken.firsts.get(edge)));
                    backs.set(edge * MAX_NODES + i, between(i, taken.seconds.get(edge)) + lengthOf(edge));
                }
            }
        }

        int greatestDistance() {
            int greatest = 0;
            for (int a = 0; a < taken.nodes; a++) {
                for (int b = 0; b < taken.nodes; b++) {
                    greatest = Math.max(greatest, between(a, b));
                }
            }
            return greatest;
        }

        /** The lowest node with which a shortest path from a to b goes on; NONE if there is none. */
        int firstStep(int a, int b) {
            if (a == b || between(a, b) >= FAR) {
                return NONE;
            }
            for (int i = 0; i < taken.nodes; i++) {
                int edge = taken.edgeBetween(a, i);
                if (edge != NONE && lengthOf(edge) + between(i, b) == between(a, b)) {
                    return i;
                }
            }
            return NONE;
        }

        int wayOut(int node, int edge) {
            return outs.get(edge * MAX_NODES + node);
        }

        int wayBack(int node, int edge) {
            return backs.get(edge * MAX_NODES + node);
        }

        /** The distance of a node and a point, times the point's bottom. */
        int reach(int node, int edge, int top, int bottom) {
            int place = edge * MAX_NODES + node;
            return Math.min(outs.get(place) * bottom + top, backs.get(place) * bottom - top);
        }

        int weighted(int node, int edge, int top, int bottom) {
            return weights.get(node) * reach(node, edge, top, bottom);
        }

        int heightAt(int set, int edge, int top, int bottom) {
            int highest = 0;
            for (int i = 0; i < taken.nodes; i++) {
                if ((set >> i & 1) == 1) {
                    highest = Math.max(highest, weighted(i, edge, top, bottom));
                }
            }
            return highest;
        }

        int costAt(int edge, int top, int bottom) {
            int sum = 0;
            for (int i = 0; i < taken.nodes; i++) {
                sum += weighted(i, edge, top, bottom);
            }
            return sum;
        }

        int nodesWithin(int edge, int t, int r) {
            int set = 0;
            for (int i = 0; i < taken.nodes; i++) {
                if (weighted(i, edge, t, 1) <= r) {
                    set |= 1 << i;
                }
            }
            return set;
        }

        /**
         * Lists the allowed points at which the height of some set can be least: the ends of the
         * allowed pieces, and the crossings at which a falling line gives way to a rising one. The
         * least cost is at an end of a piece too, since the cost bends down only.
         */
        private void gather() {
            points = 0;
            if (!connected) {
                return;
            }
            for (int edge = 0; edge < taken.edges; edge++) {
                addPoint(edge, 0, 1);
                addPoint(edge, lengthOf(edge), 1);
                for (int i = 0; i < taken.nodes; i++) {
                    for (int j = 0; j < taken.nodes; j++) {
                        addCrossing(edge, i, j);
                    }
                }
            }
            for (int i = 0; i < taken.stretches; i++) {
                addPoint(taken.sites.get(i), taken.begins.get(i), 1);
                addPoint(taken.sites.get(i), taken.ends.get(i), 1);
            }
        }

        private void addPoint(int edge, int top, int bottom) {
            if (points < MAX_POINTS && taken.permits(edge, top, bottom)) {
                edges.set(points, edge);
                tops.set(points, top);
                bottoms.set(points, bottom);
                points++;
            }
        }

        /** Adds the point at which a node that grows farther is as high as one that comes nearer. */
        private void addCrossing(int edge, int rising, int falling) {
            int up = weights.get(rising);
            int down = weights.get(falling);
            int bottom = up + down;
            int top = down * wayBack(falling, edge) - up * wayOut(rising, edge);
            boolean inside = up > 0 && down > 0 && top > 0 && top < lengthOf(edge) * bottom;
            if (inside && lead(rising, edge, top, bottom) > 0 && lead(falling, edge, top, bottom) < 0) {
                addPoint(edge, top, bottom);
            }
        }

        /** Above 0 if the shortest way to the point is the one by t = 0, below 0 if it is the other one. */
        private int lead(int node, int edge, int top, int bottom) {
            return (wayBack(node, edge) - wayOut(node, edge)) * bottom - 2 * top;
        }

        void seekCenter(int set) {
            startSeeking();
            for (int i = 0; i < points; i++) {
                offer(i, heightAt(set, edges.get(i), tops.get(i), bottoms.get(i)));
            }
        }

        void seekMedian() {
            startSeeking();
            for (int i = 0; i < points; i++) {
                offer(i, costAt(edges.get(i), tops.get(i), bottoms.get(i)));
            }
        }

        private void startSeeking() {
            found = false;
            bestEdge = 0;
            bestTop = 0;
            bestBottom = 1;
            bestValue = 0;
        }

        private void offer(int point, int value) {
            int bottom = bottoms.get(point);
            long more = (long) value * bestBottom - (long) bestValue * bottom;
            if (!found || more < 0 || more == 0 && comesBeforeBest(point)) {
                found = true;
                bestEdge = edges.get(point);
                bestTop = tops.get(point);
                bestBottom = bottom;
                bestValue = value;
            }
        }

        private boolean comesBeforeBest(int point) {
            int edge = edges.get(point);
            boolean less = (long) tops.get(point) * bestBottom < (long) bestTop * bottoms.get(point);
            return edge < bestEdge || edge == bestEdge && less;
        }

        /** The nodes of a set that are as high as the set at the point that was found last. */
        int criticalNodes(int set) {
            int result = 0;
            for (int i = 0; i < taken.nodes; i++) {
                if ((set >> i & 1) == 1 && weighted(i, bestEdge, bestTop, bestBottom) == bestValue) {
                    result |= 1 << i;
                }
            }
            return result;
        }
    }

    /** The corners of the height of all nodes along an edge, in ascending order. */
    private static final class Outline {
        private final Survey survey;
        private int edge;
        /** The height at the point that was looked at last, times its bottom. */
        private int lastHeight;
        int corners;
        final Row tops = new Row(MAX_CORNERS);
        final Row bottoms = new Row(MAX_CORNERS);
        final Row heights = new Row(MAX_CORNERS);

        Outline(Survey survey) {
            this.survey = survey;
        }

        void trace(int ofEdge) {
            edge = ofEdge;
            corners = 0;
            int lines = survey.nodes() * 2;
            addEnd(0);
            addEnd(survey.lengthOf(edge));
            for (int i = 0; i < lines; i++) {
                for (int j = 0; j < i; j++) {
                    addCrossing(i, j);
                }
            }
        }

        private void addEnd(int t) {
            turnsAt(t, 1);
            insert(t, 1);
        }

        /** Each node has two lines: an even one that rises, and an odd one that falls. */
        private int slopeOf(int line) {
            int weight = survey.weightOf(line / 2);
            return line % 2 == 0 ? weight : -weight;
        }

        private int startOf(int line) {
            int node = line / 2;
            int way = line % 2 == 0 ? survey.wayOut(node, edge) : survey.wayBack(node, edge);
            return survey.weightOf(node) * way;
        }

        private void addCrossing(int line, int other) {
            int bottom = slopeOf(line) - slopeOf(other);
            int top = startOf(other) - startOf(line);
            if (bottom < 0) {
                bottom = -bottom;
                top = -top;
            }
            boolean inside = bottom > 0 && top > 0 && top < survey.lengthOf(edge) * bottom;
            if (inside && turnsAt(top, bottom)) {
                insert(top, bottom);
            }
        }

        /** Whether the slope of the height is another one before and behind a point. */
        private boolean turnsAt(int top, int bottom) {
            int high = -1;
            int before = 0;
            int behind = 0;
            for (int i = 0; i < survey.nodes(); i++) {
                int weight = survey.weightOf(i);
                int out = survey.wayOut(i, edge) * bottom + top;
                int back = survey.wayBack(i, edge) * bottom - top;
                int value = weight * Math.min(out, back);
                int slopeBefore = out <= back ? weight : -weight;
                int slopeBehind = out < back ? weight : -weight;
                if (value > high) {
                    high = value;
                    before = slopeBefore;
                    behind = slopeBehind;
                } else if (value == high) {
                    // The highest line wins on both sides: behind with the greatest slope, before with the least.
                    before = Math.min(before, slopeBefore);
                    behind = Math.max(behind, slopeBehind);
                }
            }
            lastHeight = high;
            return before != behind;
        }

        /** Puts the point that was looked at last among the corners, unless it is there. */
        private void insert(int top, int bottom) {
            int place = 0;
            for (int i = 0; i < corners; i++) {
                long more = (long) top * bottoms.get(i) - (long) tops.get(i) * bottom;
                if (more == 0) {
                    return;
                }
                if (more > 0) {
                    place = i + 1;
                }
            }
            if (corners < MAX_CORNERS) {
                putAt(place, tops, top);
                putAt(place, bottoms, bottom);
                putAt(place, heights, lastHeight);
                corners++;
            }
        }

        private static void putAt(int place, Row row, int value) {
            row.openAt(place);
            row.set(place, value);
        }
    }

    /** The radii of the sets of nodes for one to three centers, and the groups chosen by them. */
    private static final class Groups {
        private final Survey survey;
        private int ratedTurn;
        private int all;
        /** At placeOf(k, set): the k-radius of the set, top / bottom. */
        final Row tops = new Row(MAX_CENTERS * SETS);
        final Row bottoms = new Row(MAX_CENTERS * SETS);
        private final Row heights = new Row(SETS);
        private final Row needs = new Row(SETS);

        Groups(Survey survey) {
            this.survey = survey;
        }

        static int placeOf(int k, int set) {
            return (k - 1) * SETS + set;
        }

        /** Computes the radii, unless this was done for the same measurement. */
        void rate() {
            if (ratedTurn == survey.turn) {
                return;
            }
            ratedTurn = survey.turn;
            all = survey.allNodes();
            // 1 / 0 stands above every fraction until the first point is seen.
            tops.fill(1);
            bottoms.fill(0);
            for (int i = 0; i < survey.points; i++) {
                lowerRadii(survey.edges.get(i), survey.tops.get(i), survey.bottoms.get(i));
            }
            for (int set = 0; set <= all; set++) {
                divide(2, set);
            }
            // Nothing asks for the 3-radius of fewer nodes.
            divide(MAX_CENTERS, all);
        }

        /** Lowers the radii of the sets that are less high at a point than at all points before. */
        private void lowerRadii(int edge, int top, int bottom) {
            lowerRadius(0, 0, bottom);
            for (int i = 0; i < survey.nodes(); i++) {
                int value = survey.weighted(i, edge, top, bottom);
                int bit = 1 << i;
                for (int others = 0; others < bit; others++) {
                    lowerRadius(bit + others, Math.max(value, heights.get(others)), bottom);
                }
            }
        }

        private void lowerRadius(int set, int value, int bottom) {
            heights.set(set, value);
            if ((long) value * bottoms.get(set) < (long) tops.get(set) * bottom) {
                tops.set(set, value);
                bottoms.set(set, bottom);
            }
        }

        private boolean isLess(int place, int other) {
            return (long) tops.get(place) * bottoms.get(other) < (long) tops.get(other) * bottoms.get(place);
        }

        /** Finds the k-radius of a set: the best way to give one center a part, the others the rest. */
        private void divide(int k, int set) {
            int best = placeOf(k - 1, set);
            for (int part = 1; part <= set; part++) {
                if ((part & set) == part) {
                    int rest = placeOf(k - 1, set - part);
                    int worse = isLess(part, rest) ? rest : part;
                    best = isLess(worse, best) ? worse : best;
                }
            }
            tops.set(placeOf(k, set), tops.get(best));
            bottoms.set(placeOf(k, set), bottoms.get(best));
        }

        /** Group i of the chosen division into k groups. */
        int chosen(int k, int i) {
            int bound = placeOf(k, all);
            int left = all;
            for (int earlier = 0; earlier < i; earlier++) {
                left -= greatestGroup(k - earlier, left, bound);
            }
            return i == k - 1 ? left : greatestGroup(k - i, left, bound);
        }

        /** The greatest part of a set that keeps within the bound and lets k - 1 centers do so for the rest. */
        private int greatestGroup(int k, int set, int bound) {
            for (int part = set; part > 0; part--) {
                if ((part & set) == part && !isLess(bound, part)
                        && !isLess(bound, placeOf(k - 1, set - part))) {
                    return part;
                }
            }
            return 0;
        }

        /** The least number of groups that divide all nodes, each with a radius of at most p / q. */
        int fewest(int p, int q) {
            needs.set(0, 0);
            for (int set = 1; set <= all; set++) {
                int least = MAX_NODES;
                for (int part = 1; part <= set; part++) {
                    if ((part & set) == part && isWithin(part, p, q)) {
                        least = Math.min(least, needs.get(set - part) + 1);
                    }
                }
                needs.set(set, least);
            }
            return needs.get(all);
        }

        private boolean isWithin(int set, int p, int q) {
            return (long) tops.get(set) * q <= (long) p * bottoms.get(set);
        }
    }

    /** The text buffer, and the reading of its commands. */
    private static final class Script {
        int length;
        private final Row text = new Row(MAX_TEXT);
        /** Where it reads; at a fault, where that is. */
        private int place;
        /** The letter of the command that was read last, '#' if it begins with a number. */
        int kind;
        private int numbersRead;
        final Row numbers = new Row(3);

        void append(int c) {
            text.set(length, c);
            length++;
        }

        void empty() {
            length = 0;
        }

        int findFault() {
            rewind();
            for (int i = 0; i <= MAX_TEXT && hasMore(); i++) {
                if (!readCommand()) {
                    return place;
                }
            }
            return NONE;
        }

        void rewind() {
            place = 0;
        }

        /** Whether there is anything but spaces left; goes to it. */
        boolean hasMore() {
            skipSpaces();
            return place < length;
        }

        private void skipSpaces() {
            while (place < length && signHere() == ' ') {
                place++;
            }
        }

        private int signHere() {
            return place < length ? text.get(place) : 0;
        }

        private boolean digitHere() {
            return signHere() >= '0' && signHere() <= '9';
        }

        /** The signs of a command, with # for a number; empty if no command begins here. */
        private String patternHere() {
            switch (signHere()) {
                case 'w':
                    return "w#=#;";
                case 'v':
                    return "v#=#;";
                case 'x':
                    return "x#:#-#;";
                default:
                    return digitHere() ? "#-#:#;" : "";
            }
        }

        /** Reads a command; if that fails, stays at the sign that is not allowed. */
        boolean readCommand() {
            String pattern = patternHere();
            numbersRead = 0;
            boolean good = pattern.length() > 0;
            for (int i = 0; good && i < pattern.length(); i++) {
                int sign = pattern.charAt(i);
                kind = i == 0 ? sign : kind;
                skipSpaces();
                good = sign == '#' ? readNumber() : readSign(sign);
            }
            return good;
        }

        private boolean readSign(int sign) {
            boolean good = signHere() == sign;
            place += good ? 1 : 0;
            return good;
        }

        private boolean readNumber() {
            boolean good = digitHere();
            int value = 0;
            for (int i = 0; i < 2 && digitHere(); i++) {
                value = value * 10 + signHere() - '0';
                place++;
            }
            numbers.set(numbersRead, value);
            numbersRead++;
            return good;
        }
    }
}
