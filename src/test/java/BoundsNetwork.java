import java.util.stream.IntStream;

/** The boundaries that the document names for the network: promises 1 to 12, and what the terms say of it. */
final class BoundsNetwork {
    private static final Desk.Setup NEW = Desk.NEW;
    private static final Desk.Setup LONE = Desk.LONE;
    private static final Desk.Setup PATH = Desk.PATH;
    private static final Desk.Setup FULL = Desk.FULL;
    private static final Desk.Setup SIX_RECORDS = Desk.SIX_RECORDS;
    private static final Class<?> INDEX = Desk.INDEX;
    private static final Class<?> ARGUMENT = Desk.ARGUMENT;
    private static final Class<?> STATE = Desk.STATE;
    private static final int LEAST = Desk.LEAST;
    private static final int MOST = Desk.MOST;
    private static final int NONE = Desk.NONE;
    private static final int TERMS = Desk.TERMS;

    /** Three edges with stretches on all of them: 0 --10-- 1 --20-- 2 --30-- 3. */
    private static final Desk.Setup STRETCHED = x -> {
        x.connect(0, 1, 10);
        x.connect(1, 2, 20);
        x.connect(2, 3, 30);
        Desk.script(x, "x2:1-2;x1:3-4;x0:5-6;x1:7-8;x2:9-10;");
    };
    /** A new object from which all that was done to it was taken back. */
    private static final Desk.Setup FULL_AND_BACK = x -> {
        FULL.on(x);
        Desk.records(x);
        x.clearText();
    };
    /** 12 edges in a network of 8 nodes, of which 4 and 6 are not joined by one. */
    private static final Desk.Setup TWELVE_EDGES = FULL;
    private static final Desk.Setup SIX_STRETCHES = FULL;

    private final Desk desk;

    BoundsNetwork(Desk desk) {
        this.desk = desk;
    }

    void run() {
        newObject();
        numberOfNodes();
        numberOfEdges();
        endsAndLengths();
        oneEdgeBetweenTwoNodes();
        weightsAndTrends();
        pointsOfAnEdge();
        connectedNetworks();
        numberOfStretches();
        endsOfStretches();
        forbiddenPoints();
        stretchesOfRemovedEdges();
        reset();
        connect();
        connectRefusals();
        disconnect();
        setWeight();
        setTrend();
        forbid();
        forbidRefusals();
        allow();
        count();
        edge();
        node();
        stretch();
    }

    // ---- the terms

    private void newObject() {
        desk.says(TERMS, "`NONE = -1`: Returned where there is no such thing.");
        desk.same(-1, NetworkCenters.NONE);
        desk.says(1, "Creates a workbench with the initial network");
        desk.due(4, NEW, x -> x.count(0));
        desk.due(0, NEW, x -> x.count(1));
        desk.due(0, NEW, x -> x.count(2));
        IntStream.range(0, 4).forEach(i -> {
            desk.due(1, NEW, x -> x.node(i, 0));
            desk.due(0, NEW, x -> x.node(i, 1));
            desk.due(0, NEW, x -> x.node(i, 2));
        });
        desk.alike(Desk.made(NEW), Desk.made(FULL_AND_BACK));
        NetworkCenters untouched = Desk.made(NEW);
        Desk.made(FULL.then(Desk.FULL_TEXT));
        desk.alike(untouched, Desk.made(NEW));
        desk.says(1, "an empty text");
        desk.due(0, NEW, x -> x.clearText());
        desk.due(1, NEW, x -> x.type('w'));
        desk.due(NONE, NEW, x -> x.fault());
        desk.says(1, "without records");
        desk.refused(STATE, NEW, x -> x.undo());
    }

    private void numberOfNodes() {
        desk.says(TERMS, "A network has 1 to 8 nodes, numbered from 0 (at first 4)");
        IntStream.rangeClosed(1, 8).forEach(n -> {
            Desk.Setup nodes = x -> x.reset(n);
            desk.due(4, NEW, x -> x.reset(n));
            desk.due(n, nodes, x -> x.count(0));
            desk.due(1, nodes, x -> x.node(0, 0));
            desk.due(1, nodes, x -> x.node(n - 1, 0));
            desk.refused(INDEX, nodes, x -> x.node(-1, 0), x -> x.node(n, 0));
        });
        desk.refused(ARGUMENT, NEW, x -> x.reset(0), x -> x.reset(9));
        desk.due(1, NEW, x -> x.node(3, 0));
        desk.refused(INDEX, NEW, x -> x.node(4, 0));
    }

    private void numberOfEdges() {
        desk.says(TERMS, "at most 12 edges, numbered from 0 in the order in which they were added (at first none)");
        desk.due(0, NEW, x -> x.count(1));
        desk.refused(INDEX, NEW, x -> x.edge(0, 2));
        desk.due(0, NEW, x -> x.connect(3, 2, 7));
        Desk.Setup eleven = FULL.then(x -> x.disconnect(11));
        desk.due(11, eleven, x -> x.connect(6, 4, 7));
        desk.due(12, eleven.then(x -> x.connect(6, 4, 7)), x -> x.count(1));
        desk.due(7, eleven.then(x -> x.connect(6, 4, 7)), x -> x.edge(11, 2));
        desk.refused(STATE, TWELVE_EDGES, x -> x.connect(6, 4, 7));
        desk.says(TERMS, "when one is removed, the numbers of those behind it decrease by 1");
        int[][] left = {{20, 30}, {10, 30}, {10, 20}};
        IntStream.range(0, 3).forEach(removed -> IntStream.range(0, 2).forEach(i ->
                desk.due(left[removed][i], STRETCHED.then(x -> x.disconnect(removed)), x -> x.edge(i, 2))));
        IntStream.range(0, 11).forEach(i -> {
            desk.due(i, FULL.then(x -> x.disconnect(11)), x -> firstOfFull(x, i));
            desk.due(i + 1, FULL.then(x -> x.disconnect(0)), x -> firstOfFull(x, i));
            desk.due(i < 5 ? i : i + 1, FULL.then(x -> x.disconnect(5)), x -> firstOfFull(x, i));
        });
    }

    /** Which edge of FULL this one was: its diagonals come behind the ring. */
    private static long firstOfFull(NetworkCenters x, int edge) {
        int first = x.edge(edge, 0);
        return x.edge(edge, 1) == first + 4 ? first + 8 : first;
    }

    private void endsAndLengths() {
        desk.says(TERMS, "An edge has a first and a second node, which are different");
        desk.due(3, NEW.then(x -> x.connect(3, 0, 5)), x -> x.edge(0, 0));
        desk.due(0, NEW.then(x -> x.connect(3, 0, 5)), x -> x.edge(0, 1));
        IntStream.range(0, 4).forEach(i -> desk.refused(ARGUMENT, NEW, x -> x.connect(i, i, 5)));
        desk.refused(ARGUMENT, LONE, x -> x.connect(0, 0, 1));
        desk.says(TERMS, "a length from 1 to 50");
        desk.due(1, NEW.then(x -> x.connect(0, 1, 1)), x -> x.edge(0, 2));
        desk.due(50, NEW.then(x -> x.connect(0, 1, 50)), x -> x.edge(0, 2));
        desk.refused(ARGUMENT, NEW, x -> x.connect(0, 1, 0), x -> x.connect(0, 1, 51));
    }

    private void oneEdgeBetweenTwoNodes() {
        desk.says(TERMS, "there is at most one edge between two nodes");
        desk.refused(STATE, PATH, x -> x.connect(0, 1, 10), x -> x.connect(1, 0, 10), x -> x.connect(2, 1, 1));
        desk.due(2, PATH, x -> x.connect(2, 0, 1));
        desk.due(1, PATH.then(x -> x.disconnect(0)), x -> x.connect(1, 0, 3));
        desk.refused(STATE, PATH.then(x -> x.disconnect(0)), x -> x.connect(1, 2, 3));
        Desk.Setup four = x -> Desk.script(x, "0-1:1;0-2:1;0-3:1;1-2:1;1-3:1;2-3:1;");
        desk.due(6, four, x -> x.count(1));
        desk.refused(STATE, four, x -> x.connect(0, 1, 1), x -> x.connect(3, 2, 1));
    }

    private void weightsAndTrends() {
        desk.says(TERMS, "Each node has a weight and a trend, from 0 to 9 (at first 1 and 0).");
        IntStream.range(0, 4).forEach(i -> {
            desk.due(1, NEW, x -> x.setWeight(i, 0));
            desk.due(0, NEW, x -> x.setTrend(i, 9));
            desk.due(0, NEW.then(x -> x.setWeight(i, 0)), x -> x.node(i, 0));
            desk.due(9, NEW.then(x -> x.setWeight(i, 9)), x -> x.node(i, 0));
            desk.due(9, NEW.then(x -> x.setTrend(i, 9)), x -> x.node(i, 1));
            desk.due(0, NEW.then(x -> x.setTrend(i, 9)).then(x -> x.setTrend(i, 0)), x -> x.node(i, 1));
            desk.refused(ARGUMENT, NEW, x -> x.setWeight(i, -1), x -> x.setWeight(i, 10));
            desk.refused(ARGUMENT, NEW, x -> x.setTrend(i, -1), x -> x.setTrend(i, 10));
        });
    }

    private void pointsOfAnEdge() {
        desk.says(TERMS, "t = 0 is its first node, t = its length its second one, and in between t is the distance");
        Desk.Setup turned = x -> {
            x.reset(2);
            x.connect(1, 0, 10);
        };
        desk.due(0, turned, x -> x.distanceTo(1, 0, 0, 1, 0));
        desk.due(0, turned, x -> x.distanceTo(0, 0, 10, 1, 0));
        desk.due(3, turned, x -> x.distanceTo(1, 0, 3, 1, 0));
        desk.due(7, turned, x -> x.distanceTo(0, 0, 3, 1, 0));
        desk.refused(ARGUMENT, turned, x -> x.distanceTo(0, 0, -1, 1, 0), x -> x.distanceTo(0, 0, 11, 1, 0));
        desk.says(TERMS, "(A node is a point of each of its edges.)");
        IntStream.range(0, 3).forEach(i -> {
            int way = PATH_WAYS[i];
            desk.due(way, PATH, x -> x.distanceTo(i, 0, 10, 1, 0));
            desk.due(way, PATH, x -> x.distanceTo(i, 1, 0, 1, 0));
        });
        Desk.Setup closed = PATH.then(x -> x.forbid(0, 0, 10));
        desk.due(1, closed, x -> Desk.truth(x.isAllowed(0, 10, 1)));
        desk.due(0, closed, x -> x.radius(2, 0));
        desk.says(TERMS, "is the length of a shortest path between them along edges");
        desk.due(2, Desk.DETOUR, x -> x.distance(0, 1));
        desk.due(3, Desk.DETOUR, x -> x.distanceTo(0, 0, 9, 1, 0));
        desk.due(6, Desk.DETOUR, x -> x.distanceTo(0, 0, 6, 1, 0));
        desk.due(350, Desk.LINE, x -> x.distance(0, 7));
    }

    private static final int[] PATH_WAYS = {10, 0, 6};

    private void connectedNetworks() {
        desk.says(TERMS, "A network is connected if there is a path between any two nodes.");
        desk.due(1, LONE, x -> x.count(3));
        desk.due(0, NEW.then(x -> x.reset(2)), x -> x.count(3));
        desk.due(1, Desk.PAIR, x -> x.count(3));
        desk.due(0, NEW, x -> x.count(3));
        desk.due(0, x -> Desk.script(x, "0-1:1;1-2:1;0-2:1;"), x -> x.count(3));
        desk.due(0, x -> Desk.script(x, "0-1:1;2-3:1;"), x -> x.count(3));
        desk.due(1, x -> Desk.script(x, "0-1:1;2-3:1;3-0:1;"), x -> x.count(3));
        desk.due(1, Desk.LINE, x -> x.count(3));
        IntStream.range(0, 7).forEach(i -> desk.due(0, Desk.LINE.then(x -> x.disconnect(i)), x -> x.count(3)));
        desk.due(1, FULL, x -> x.count(3));
    }

    private void numberOfStretches() {
        desk.says(TERMS, "There are at most 6 stretches, numbered from 0 in the order in which they were added");
        desk.due(0, PATH, x -> x.forbid(1, 0, 1));
        desk.refused(INDEX, PATH, x -> x.stretch(0, 0));
        Desk.Setup five = FULL.then(x -> x.allow(5));
        desk.due(5, five, x -> x.forbid(3, 4, 5));
        desk.due(3, five.then(x -> x.forbid(3, 4, 5)), x -> x.stretch(5, 0));
        desk.refused(STATE, SIX_STRETCHES, x -> x.forbid(3, 4, 5));
        desk.says(TERMS, "when one is removed, the numbers of those behind it decrease by 1.");
        int[] begins = {1, 3, 5, 7, 9};
        IntStream.range(0, 5).forEach(removed -> IntStream.range(0, 4).forEach(i ->
                desk.due(begins[i < removed ? i : i + 1], STRETCHED.then(x -> x.allow(removed)), x -> x.stretch(i, 1))));
        desk.refused(INDEX, STRETCHED.then(x -> x.allow(0)), x -> x.stretch(4, 0));
    }

    private void endsOfStretches() {
        desk.says(TERMS, "A stretch belongs to an edge and has integers a and b with 0 <= a < b <= length");
        desk.due(0, PATH, x -> x.forbid(1, 0, 6));
        desk.due(0, PATH, x -> x.forbid(1, 0, 1));
        desk.due(0, PATH, x -> x.forbid(1, 5, 6));
        desk.due(0, Desk.PAIR, x -> x.forbid(0, 0, 1));
        desk.refused(ARGUMENT, PATH, x -> x.forbid(1, -1, 6), x -> x.forbid(1, 0, 7), x -> x.forbid(1, 3, 3),
                x -> x.forbid(1, 4, 3), x -> x.forbid(1, 0, 0), x -> x.forbid(1, 6, 6), x -> x.forbid(1, 6, 7));
        desk.due(0, PATH, x -> x.forbid(0, 9, 10));
    }

    private void forbiddenPoints() {
        desk.says(TERMS, "the points of the edge with t greater than a and less than b are forbidden");
        Desk.Setup closed = PATH.then(x -> x.forbid(0, 3, 5));
        desk.due(0, closed, x -> Desk.truth(x.isAllowed(0, 3001, 1000)));
        desk.due(0, closed, x -> Desk.truth(x.isAllowed(0, 4999, 1000)));
        desk.due(0, closed, x -> Desk.truth(x.isAllowed(0, 4, 1)));
        desk.says(TERMS, "(Its ends are not; paths may lead through forbidden points.)");
        desk.due(1, closed, x -> Desk.truth(x.isAllowed(0, 3000, 1000)));
        desk.due(1, closed, x -> Desk.truth(x.isAllowed(0, 5000, 1000)));
        Desk.Setup meeting = closed.then(x -> x.forbid(0, 5, 9));
        desk.due(1, meeting, x -> Desk.truth(x.isAllowed(0, 5, 1)));
        desk.due(0, meeting.then(x -> x.forbid(0, 4, 6)), x -> Desk.truth(x.isAllowed(0, 5, 1)));
        Desk.Setup shut = PATH.then(x -> x.forbid(0, 0, 10));
        desk.due(16, shut, x -> x.distance(0, 2));
        desk.due(11, shut, x -> x.distanceTo(2, 0, 5, 1, 0));
        desk.due(1, shut, x -> x.next(0, 2));
        desk.due(1, shut, x -> x.count(3));
        desk.says(TERMS, "All other points are allowed.");
        desk.due(1, closed, x -> Desk.truth(x.isAllowed(0, 2999, 1000)));
        desk.due(1, closed, x -> Desk.truth(x.isAllowed(0, 5001, 1000)));
        desk.due(1, closed, x -> Desk.truth(x.isAllowed(1, 4, 1)));
        desk.due(1, closed.then(x -> x.allow(0)), x -> Desk.truth(x.isAllowed(0, 4, 1)));
    }

    private void stretchesOfRemovedEdges() {
        desk.says(TERMS, "When an edge is removed, so are its stretches; those of edges behind it stay with their edges.");
        int[][][] left = {
            {{1, 1, 2}, {0, 3, 4}, {0, 7, 8}, {1, 9, 10}},
            {{1, 1, 2}, {0, 5, 6}, {1, 9, 10}},
            {{1, 3, 4}, {0, 5, 6}, {1, 7, 8}}};
        IntStream.range(0, 3).forEach(removed -> {
            Desk.Setup rest = STRETCHED.then(x -> x.disconnect(removed));
            desk.due(left[removed].length, rest, x -> x.count(2));
            IntStream.range(0, left[removed].length).forEach(i -> IntStream.range(0, 3).forEach(what ->
                    desk.due(left[removed][i][what], rest, x -> x.stretch(i, what))));
        });
    }

    // ---- the promises

    private void reset() {
        desk.says(2, "`n`: the number of nodes, 1 to 8");
        desk.due(1, x -> x.reset(1), x -> x.count(0));
        desk.due(8, x -> x.reset(8), x -> x.count(0));
        desk.says(2, "Throws `IllegalArgumentException` if n is out of range");
        desk.refused(ARGUMENT, FULL, x -> x.reset(0), x -> x.reset(9), x -> x.reset(-1), x -> x.reset(LEAST),
                x -> x.reset(MOST));
        desk.refused(ARGUMENT, SIX_RECORDS, x -> x.reset(0));
        desk.says(2, "Starts a new network with some nodes, without edges, with the initial weights and trends.");
        Desk.Setup again = FULL.then(x -> x.reset(8));
        desk.due(8, again, x -> x.count(0));
        desk.due(0, again, x -> x.count(1));
        desk.due(0, again, x -> x.count(2));
        desk.due(0, again, x -> x.count(3));
        IntStream.range(0, 8).forEach(i -> {
            desk.due(1, again, x -> x.node(i, 0));
            desk.due(0, again, x -> x.node(i, 1));
            desk.due(1, FULL.then(x -> x.reset(1)).then(x -> x.reset(8)), x -> x.node(i, 0));
            desk.due(0, FULL.then(x -> x.reset(1)).then(x -> x.reset(8)), x -> x.node(i, 1));
        });
        desk.due(120, Desk.FULL_TEXT.then(x -> x.reset(1)), x -> x.clearText());
        desk.says(2, "Undoable.");
        desk.undoable(FULL, x -> x.reset(8), x -> x.reset(1));
        desk.undoable(NEW, x -> x.reset(4));
        desk.says(2, "Returns the previous number.");
        desk.due(4, NEW, x -> x.reset(4));
        desk.due(1, LONE, x -> x.reset(8));
        desk.due(8, FULL, x -> x.reset(1));
    }

    private void connect() {
        desk.says(3, "Adds an edge.");
        desk.due(1, NEW.then(x -> x.connect(0, 1, 1)), x -> x.count(1));
        desk.says(3, "Undoable.");
        desk.undoable(NEW, x -> x.connect(0, 1, 1), x -> x.connect(3, 2, 50));
        desk.undoable(FULL.then(x -> x.disconnect(11)), x -> x.connect(6, 4, 7));
        desk.says(3, "`a`: its first node");
        desk.due(3, x -> x.connect(3, 0, 1), x -> x.edge(0, 0));
        desk.says(3, "`b`: its second node");
        desk.due(0, x -> x.connect(3, 0, 1), x -> x.edge(0, 1));
        desk.says(3, "`length`: its length");
        desk.due(1, x -> x.connect(3, 0, 1), x -> x.edge(0, 2));
        desk.due(50, x -> x.connect(3, 0, 50), x -> x.edge(0, 2));
        desk.says(3, "Returns its number.");
        desk.due(0, NEW, x -> x.connect(0, 1, 1));
        desk.due(2, PATH, x -> x.connect(2, 0, 1));
        desk.due(11, FULL.then(x -> x.disconnect(0)), x -> x.connect(1, 0, 1));
    }

    private void connectRefusals() {
        desk.says(3, "Throws `IndexOutOfBoundsException` if one of the nodes does not exist");
        desk.refused(INDEX, NEW, x -> x.connect(-1, 0, 1), x -> x.connect(0, -1, 1), x -> x.connect(4, 0, 1),
                x -> x.connect(0, 4, 1), x -> x.connect(LEAST, 0, 1), x -> x.connect(0, MOST, 1));
        desk.refused(INDEX, LONE, x -> x.connect(0, 1, 1), x -> x.connect(1, 0, 1));
        desk.refused(INDEX, FULL, x -> x.connect(7, 8, 1), x -> x.connect(8, 7, 1));
        // The node is looked at first, then the rest of the arguments, then what is there already.
        desk.refused(INDEX, NEW, x -> x.connect(4, 4, 1), x -> x.connect(0, 4, 0), x -> x.connect(-1, 0, 51));
        desk.refused(INDEX, TWELVE_EDGES, x -> x.connect(8, 0, 1), x -> x.connect(8, 8, 0));
        desk.says(3, "Throws `IllegalArgumentException` if a and b are the same, or length is out of range");
        desk.refused(ARGUMENT, NEW, x -> x.connect(0, 0, 1), x -> x.connect(3, 3, 50), x -> x.connect(0, 1, 0),
                x -> x.connect(0, 1, 51), x -> x.connect(0, 1, -1), x -> x.connect(0, 1, LEAST), x -> x.connect(0, 1, MOST));
        desk.refused(ARGUMENT, PATH, x -> x.connect(0, 1, 0), x -> x.connect(1, 0, 51));
        desk.refused(ARGUMENT, TWELVE_EDGES, x -> x.connect(6, 6, 1), x -> x.connect(6, 4, 0), x -> x.connect(6, 4, 51));
        desk.says(3, "Throws `IllegalStateException` if there is an edge between a and b, or there are 12 edges");
        desk.refused(STATE, Desk.PAIR, x -> x.connect(0, 1, 1), x -> x.connect(1, 0, 50));
        desk.refused(STATE, TWELVE_EDGES, x -> x.connect(6, 4, 1), x -> x.connect(0, 1, 1));
        desk.refused(STATE, SIX_RECORDS.then(x -> x.connect(0, 1, 1)), x -> x.connect(0, 1, 1));
    }

    private void disconnect() {
        desk.says(4, "Removes an edge with its stretches.");
        desk.due(2, STRETCHED.then(x -> x.disconnect(1)), x -> x.count(1));
        desk.due(3, STRETCHED.then(x -> x.disconnect(1)), x -> x.count(2));
        desk.says(4, "Undoable.");
        desk.undoable(STRETCHED, x -> x.disconnect(0), x -> x.disconnect(1), x -> x.disconnect(2));
        desk.undoable(FULL, x -> x.disconnect(0), x -> x.disconnect(11));
        desk.says(4, "`edge`: an edge");
        desk.due(0, PATH, x -> x.disconnect(0));
        desk.due(0, PATH, x -> x.disconnect(1));
        desk.says(4, "Returns how many stretches were removed.");
        desk.due(1, STRETCHED, x -> x.disconnect(0));
        desk.due(2, STRETCHED, x -> x.disconnect(1));
        desk.due(3, FULL, x -> x.disconnect(0));
        desk.due(0, FULL, x -> x.disconnect(1));
        desk.due(3, FULL, x -> x.disconnect(11));
        desk.due(6, PATH.then(x -> Desk.script(x, "x1:0-6;".repeat(6))), x -> x.disconnect(1));
        desk.says(4, "Throws `IndexOutOfBoundsException` if there is no such edge");
        desk.refused(INDEX, NEW, x -> x.disconnect(0), x -> x.disconnect(-1));
        desk.refused(INDEX, PATH, x -> x.disconnect(2), x -> x.disconnect(-1), x -> x.disconnect(LEAST),
                x -> x.disconnect(MOST));
        desk.refused(INDEX, FULL, x -> x.disconnect(12));
        desk.refused(INDEX, SIX_RECORDS, x -> x.disconnect(0));
    }

    private void setWeight() {
        desk.says(5, "Sets the weight of a node.");
        desk.due(9, x -> x.setWeight(3, 9), x -> x.node(3, 0));
        desk.due(0, x -> x.setWeight(3, 9), x -> x.node(3, 1));
        desk.says(5, "Undoable.");
        desk.undoable(NEW, x -> x.setWeight(0, 0), x -> x.setWeight(3, 9), x -> x.setWeight(2, 1));
        desk.says(5, "`node`: a node");
        desk.due(1, NEW, x -> x.setWeight(0, 5));
        desk.due(9, FULL, x -> x.setWeight(7, 5));
        desk.says(5, "`value`: 0 to 9");
        desk.due(0, x -> x.setWeight(0, 0), x -> x.node(0, 0));
        desk.due(9, x -> x.setWeight(0, 9), x -> x.node(0, 0));
        desk.says(5, "Returns the previous weight.");
        desk.due(9, x -> x.setWeight(1, 9), x -> x.setWeight(1, 0));
        desk.due(0, x -> x.setWeight(1, 0), x -> x.setWeight(1, 0));
        desk.says(5, "Throws `IndexOutOfBoundsException` if there is no such node");
        desk.refused(INDEX, NEW, x -> x.setWeight(-1, 1), x -> x.setWeight(4, 1), x -> x.setWeight(LEAST, 1),
                x -> x.setWeight(MOST, 1), x -> x.setWeight(4, 10), x -> x.setWeight(-1, -1));
        desk.refused(INDEX, LONE, x -> x.setWeight(1, 1));
        desk.refused(INDEX, FULL, x -> x.setWeight(8, 1));
        desk.says(5, "Throws `IllegalArgumentException` if value is out of range");
        desk.refused(ARGUMENT, NEW, x -> x.setWeight(0, -1), x -> x.setWeight(3, 10), x -> x.setWeight(0, LEAST),
                x -> x.setWeight(0, MOST));
        desk.refused(ARGUMENT, SIX_RECORDS, x -> x.setWeight(0, 10));
    }

    private void setTrend() {
        desk.says(6, "Sets the trend of a node.");
        desk.due(9, x -> x.setTrend(3, 9), x -> x.node(3, 1));
        desk.due(1, x -> x.setTrend(3, 9), x -> x.node(3, 0));
        desk.says(6, "Undoable.");
        desk.undoable(NEW, x -> x.setTrend(0, 0), x -> x.setTrend(3, 9));
        desk.says(6, "`node`: a node");
        desk.due(0, NEW, x -> x.setTrend(0, 5));
        desk.due(9, FULL, x -> x.setTrend(7, 5));
        desk.says(6, "`value`: 0 to 9");
        desk.due(0, FULL.then(x -> x.setTrend(0, 0)), x -> x.node(0, 1));
        desk.due(9, x -> x.setTrend(0, 9), x -> x.node(0, 1));
        desk.says(6, "Returns the previous trend.");
        desk.due(9, x -> x.setTrend(1, 9), x -> x.setTrend(1, 0));
        desk.due(0, NEW, x -> x.setTrend(1, 0));
        desk.says(6, "Throws `IndexOutOfBoundsException` if there is no such node");
        desk.refused(INDEX, NEW, x -> x.setTrend(-1, 1), x -> x.setTrend(4, 1), x -> x.setTrend(LEAST, 1),
                x -> x.setTrend(MOST, 1), x -> x.setTrend(4, 10), x -> x.setTrend(-1, -1));
        desk.refused(INDEX, LONE, x -> x.setTrend(1, 1));
        desk.refused(INDEX, FULL, x -> x.setTrend(8, 1));
        desk.says(6, "Throws `IllegalArgumentException` if value is out of range");
        desk.refused(ARGUMENT, NEW, x -> x.setTrend(0, -1), x -> x.setTrend(3, 10), x -> x.setTrend(0, LEAST),
                x -> x.setTrend(0, MOST));
        desk.refused(ARGUMENT, SIX_RECORDS, x -> x.setTrend(0, 10));
    }

    private void forbid() {
        desk.says(7, "Adds a stretch.");
        desk.due(1, PATH.then(x -> x.forbid(0, 0, 10)), x -> x.count(2));
        desk.due(2, PATH.then(x -> x.forbid(0, 0, 10)).then(x -> x.forbid(0, 0, 10)), x -> x.count(2));
        desk.says(7, "Undoable.");
        desk.undoable(PATH, x -> x.forbid(0, 0, 10), x -> x.forbid(1, 5, 6));
        desk.undoable(FULL.then(x -> x.allow(0)), x -> x.forbid(3, 0, 1));
        desk.says(7, "`edge`: an edge");
        desk.due(0, PATH.then(x -> x.forbid(0, 2, 3)), x -> x.stretch(0, 0));
        desk.due(1, PATH.then(x -> x.forbid(1, 2, 3)), x -> x.stretch(0, 0));
        desk.says(7, "`a`: where it begins");
        desk.due(0, PATH.then(x -> x.forbid(0, 0, 10)), x -> x.stretch(0, 1));
        desk.due(9, PATH.then(x -> x.forbid(0, 9, 10)), x -> x.stretch(0, 1));
        desk.says(7, "`b`: where it ends");
        desk.due(1, PATH.then(x -> x.forbid(0, 0, 1)), x -> x.stretch(0, 2));
        desk.due(10, PATH.then(x -> x.forbid(0, 0, 10)), x -> x.stretch(0, 2));
        desk.says(7, "Returns its number.");
        desk.due(0, PATH, x -> x.forbid(0, 0, 10));
        desk.due(5, STRETCHED, x -> x.forbid(0, 0, 10));
        desk.due(5, FULL.then(x -> x.allow(0)), x -> x.forbid(0, 0, 50));
    }

    private void forbidRefusals() {
        desk.says(7, "Throws `IndexOutOfBoundsException` if there is no such edge");
        desk.refused(INDEX, NEW, x -> x.forbid(0, 0, 1));
        desk.refused(INDEX, PATH, x -> x.forbid(2, 0, 1), x -> x.forbid(-1, 0, 1), x -> x.forbid(LEAST, 0, 1),
                x -> x.forbid(MOST, 0, 1), x -> x.forbid(2, 1, 0), x -> x.forbid(-1, 0, 51));
        desk.refused(INDEX, SIX_STRETCHES, x -> x.forbid(12, 0, 1), x -> x.forbid(12, 1, 1));
        desk.says(7, "Throws `IllegalArgumentException` if not 0 <= a < b <= length of the edge");
        desk.refused(ARGUMENT, PATH, x -> x.forbid(0, -1, 1), x -> x.forbid(0, 0, 11), x -> x.forbid(0, 10, 11),
                x -> x.forbid(0, 5, 5), x -> x.forbid(0, 6, 5), x -> x.forbid(0, LEAST, 5), x -> x.forbid(0, 5, MOST),
                x -> x.forbid(0, MOST, LEAST), x -> x.forbid(0, 0, LEAST), x -> x.forbid(0, MOST, MOST));
        desk.refused(ARGUMENT, SIX_STRETCHES, x -> x.forbid(0, 0, 51), x -> x.forbid(0, -1, 1), x -> x.forbid(0, 1, 1));
        desk.says(7, "Throws `IllegalStateException` if there are 6 stretches");
        desk.refused(STATE, SIX_STRETCHES, x -> x.forbid(0, 0, 50), x -> x.forbid(11, 49, 50), x -> x.forbid(5, 0, 1));
        desk.refused(STATE, SIX_STRETCHES.then(SIX_RECORDS), x -> x.forbid(0, 0, 1));
    }

    private void allow() {
        desk.says(8, "Removes a stretch.");
        desk.due(4, STRETCHED.then(x -> x.allow(0)), x -> x.count(2));
        desk.due(0, PATH.then(x -> x.forbid(0, 0, 1)).then(x -> x.allow(0)), x -> x.count(2));
        desk.says(8, "Undoable.");
        desk.undoable(STRETCHED, x -> x.allow(0), x -> x.allow(4));
        desk.undoable(FULL, x -> x.allow(0), x -> x.allow(5));
        desk.says(8, "`stretch`: its number");
        desk.due(3, STRETCHED.then(x -> x.allow(0)), x -> x.stretch(0, 1));
        desk.due(1, STRETCHED.then(x -> x.allow(4)), x -> x.stretch(0, 1));
        desk.says(8, "Returns its edge.");
        int[] sites = {2, 1, 0, 1, 2};
        IntStream.range(0, 5).forEach(i -> desk.due(sites[i], STRETCHED, x -> x.allow(i)));
        desk.due(11, FULL, x -> x.allow(5));
        desk.says(8, "Throws `IndexOutOfBoundsException` if there is no such stretch");
        desk.refused(INDEX, NEW, x -> x.allow(0), x -> x.allow(-1));
        desk.refused(INDEX, PATH, x -> x.allow(0));
        desk.refused(INDEX, STRETCHED, x -> x.allow(5), x -> x.allow(-1), x -> x.allow(LEAST), x -> x.allow(MOST));
        desk.refused(INDEX, FULL, x -> x.allow(6));
        desk.refused(INDEX, SIX_RECORDS, x -> x.allow(0));
    }

    private void count() {
        desk.says(9, "Returns a number of the network.");
        desk.quiet(NEW, x -> x.count(0), x -> x.count(3));
        desk.quiet(FULL, x -> x.count(1), x -> x.count(2), x -> x.count(3));
        desk.says(9, "`what`: 0 the number of nodes, 1 of edges, 2 of stretches, 3 whether it is connected (0 or 1)");
        int[][] due = {{4, 0, 0, 0}, {1, 0, 0, 1}, {3, 2, 0, 1}, {8, 12, 6, 1}};
        Desk.Setup[] setups = {NEW, LONE, PATH, FULL};
        IntStream.range(0, 16).forEach(i -> desk.due(due[i / 4][i % 4], setups[i / 4], x -> x.count(i % 4)));
        desk.says(9, "Returns that number.");
        desk.due(3, STRETCHED, x -> x.count(1));
        desk.due(5, STRETCHED, x -> x.count(2));
        desk.says(9, "Throws `IllegalArgumentException` if what is not 0 to 3");
        desk.refused(ARGUMENT, NEW, x -> x.count(-1), x -> x.count(4), x -> x.count(LEAST), x -> x.count(MOST));
    }

    private void edge() {
        desk.says(10, "Returns a property of an edge.");
        desk.quiet(PATH, x -> x.edge(0, 0), x -> x.edge(1, 2));
        desk.says(10, "`edge`: an edge");
        desk.due(10, PATH, x -> x.edge(0, 2));
        desk.due(6, PATH, x -> x.edge(1, 2));
        desk.due(50, FULL, x -> x.edge(11, 2));
        desk.says(10, "`what`: 0 its first node, 1 its second node, 2 its length");
        desk.due(3, FULL, x -> x.edge(11, 0));
        desk.due(7, FULL, x -> x.edge(11, 1));
        desk.says(10, "Returns the property.");
        desk.due(7, FULL, x -> x.edge(7, 0));
        desk.due(0, FULL, x -> x.edge(7, 1));
        desk.says(10, "Throws `IndexOutOfBoundsException` if there is no such edge");
        desk.refused(INDEX, NEW, x -> x.edge(0, 0), x -> x.edge(-1, 0), x -> x.edge(0, 3));
        desk.refused(INDEX, PATH, x -> x.edge(2, 0), x -> x.edge(-1, -1), x -> x.edge(LEAST, 0), x -> x.edge(MOST, 3));
        desk.refused(INDEX, FULL, x -> x.edge(12, 0));
        desk.says(10, "Throws `IllegalArgumentException` if what is not 0 to 2");
        desk.refused(ARGUMENT, PATH, x -> x.edge(0, -1), x -> x.edge(1, 3), x -> x.edge(0, LEAST), x -> x.edge(0, MOST));
    }

    private void node() {
        desk.says(11, "Returns a property of a node.");
        desk.quiet(PATH, x -> x.node(0, 0), x -> x.node(2, 2));
        desk.says(11, "`node`: a node");
        desk.due(9, FULL, x -> x.node(0, 0));
        desk.due(9, FULL, x -> x.node(7, 0));
        desk.says(11, "`what`: 0 its weight, 1 its trend, 2 the number of its edges");
        desk.due(1, PATH, x -> x.node(0, 2));
        desk.due(2, PATH, x -> x.node(1, 2));
        desk.due(0, LONE, x -> x.node(0, 2));
        desk.due(3, FULL, x -> x.node(7, 2));
        desk.due(7, x -> {
            x.reset(8);
            Desk.script(x, "0-1:1;2-0:1;0-3:1;4-0:1;0-5:1;6-0:1;0-7:1;");
        }, x -> x.node(0, 2));
        desk.says(11, "Returns the property.");
        desk.due(5, FULL.then(x -> x.setWeight(6, 5)), x -> x.node(6, 0));
        desk.due(4, FULL.then(x -> x.setTrend(6, 4)), x -> x.node(6, 1));
        desk.says(11, "Throws `IndexOutOfBoundsException` if there is no such node");
        desk.refused(INDEX, NEW, x -> x.node(4, 0), x -> x.node(-1, 0), x -> x.node(4, 3), x -> x.node(LEAST, 0),
                x -> x.node(MOST, -1));
        desk.refused(INDEX, LONE, x -> x.node(1, 0));
        desk.refused(INDEX, FULL, x -> x.node(8, 0));
        desk.says(11, "Throws `IllegalArgumentException` if what is not 0 to 2");
        desk.refused(ARGUMENT, NEW, x -> x.node(0, -1), x -> x.node(3, 3), x -> x.node(0, LEAST), x -> x.node(0, MOST));
    }

    private void stretch() {
        desk.says(12, "Returns a property of a stretch.");
        desk.quiet(STRETCHED, x -> x.stretch(0, 0), x -> x.stretch(4, 2));
        desk.says(12, "`stretch`: its number");
        desk.due(1, STRETCHED, x -> x.stretch(0, 1));
        desk.due(9, STRETCHED, x -> x.stretch(4, 1));
        desk.due(50, FULL, x -> x.stretch(5, 2));
        desk.says(12, "`what`: 0 its edge, 1 a, 2 b");
        desk.due(11, FULL, x -> x.stretch(4, 0));
        desk.due(49, FULL, x -> x.stretch(4, 1));
        desk.says(12, "Returns the property.");
        desk.due(50, FULL, x -> x.stretch(4, 2));
        desk.says(12, "Throws `IndexOutOfBoundsException` if there is no such stretch");
        desk.refused(INDEX, NEW, x -> x.stretch(0, 0), x -> x.stretch(-1, 0), x -> x.stretch(0, 3));
        desk.refused(INDEX, STRETCHED, x -> x.stretch(5, 0), x -> x.stretch(-1, -1), x -> x.stretch(LEAST, 0),
                x -> x.stretch(MOST, 3));
        desk.refused(INDEX, FULL, x -> x.stretch(6, 0));
        desk.says(12, "Throws `IllegalArgumentException` if what is not 0 to 2");
        desk.refused(ARGUMENT, STRETCHED, x -> x.stretch(0, -1), x -> x.stretch(4, 3), x -> x.stretch(0, LEAST),
                x -> x.stretch(0, MOST));
    }
}
