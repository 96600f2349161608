import java.util.stream.IntStream;

/** The boundaries that the document names for centers, groups and coverings: promises 21 to 30. */
final class BoundsCenter {
    private static final Desk.Setup NEW = Desk.NEW;
    private static final Desk.Setup LONE = Desk.LONE;
    private static final Desk.Setup PAIR = Desk.PAIR;
    private static final Desk.Setup PATH = Desk.PATH;
    private static final Desk.Setup APART = Desk.APART;
    private static final Desk.Setup RING = Desk.RING;
    private static final Desk.Setup DETOUR = Desk.DETOUR;
    private static final Desk.Setup LINE = Desk.LINE;
    private static final Desk.Setup FULL = Desk.FULL;
    /** 0 --10-- 1 alone. */
    private static final Desk.Setup TWO = x -> {
        x.reset(2);
        x.connect(0, 1, 10);
    };
    private static final Desk.Setup WEIGHTLESS = PATH.then(Desk.weights(0, 0, 0));
    /** Radius 32 / 3, at t = 2 / 3 of edge 1. */
    private static final Desk.Setup THIRDS = PATH.then(Desk.weights(1, 1, 2));
    /** 3 --2-- 2 --7-- 1 --3-- 0 --40-- 4 --10-- 5. */
    private static final Desk.Setup TOWNS = x -> {
        x.reset(6);
        Desk.script(x, "3-2:2;2-1:7;1-0:3;0-4:40;4-5:10;");
    };
    /** 0 in the middle of 1 to 4, which are 2, 4, 6 and 8 away. */
    private static final Desk.Setup STAR = x -> {
        x.reset(5);
        Desk.script(x, "0-1:2;0-2:4;0-3:6;0-4:8;");
    };
    private static final Class<?> INDEX = Desk.INDEX;
    private static final Class<?> ARGUMENT = Desk.ARGUMENT;
    private static final Class<?> STATE = Desk.STATE;
    private static final int LEAST = Desk.LEAST;
    private static final int MOST = Desk.MOST;
    private static final int NONE = Desk.NONE;
    private static final int TERMS = Desk.TERMS;

    private final Desk desk;

    BoundsCenter(Desk desk) {
        this.desk = desk;
    }

    void run() {
        leastHeights();
        tiesOfCenters();
        criticalNodes();
        tiesOfMedians();
        divisions();
        chosenDivisions();
        coverings();
        changedWeights();
        radius();
        center();
        critical();
        median();
        radiusOf();
        group();
        covering();
        covered();
        changedRadius();
        radiusWithout();
    }

    // ---- the terms

    private void leastHeights() {
        desk.says(TERMS, "The radius of S is the least height of all allowed points.");
        desk.due(8, PATH, x -> x.radius(7, 0));
        desk.due(8, PATH.then(x -> x.forbid(0, 7, 8)), x -> x.radius(7, 0));
        desk.due(8, PATH.then(x -> x.forbid(0, 8, 9)), x -> x.radius(7, 0));
        desk.due(9, PATH.then(x -> x.forbid(0, 7, 9)), x -> x.radius(7, 0));
        desk.due(10, PATH.then(x -> x.forbid(0, 0, 10)), x -> x.radius(7, 0));
        desk.due(10, PATH.then(x -> x.forbid(0, 0, 10)).then(x -> x.forbid(1, 0, 6)), x -> x.radius(7, 0));
        desk.due(8, PATH.then(x -> x.forbid(0, 7, 9)).then(x -> x.allow(0)), x -> x.radius(7, 0));
    }

    private void center(Desk.Setup setup, int set, int edge, int top, int bottom) {
        desk.due(edge, setup, x -> x.center(set, 0));
        desk.due(top, setup, x -> x.center(set, 1));
        desk.due(bottom, setup, x -> x.center(set, 2));
    }

    private void tiesOfCenters() {
        desk.says(TERMS, "The center of S is the allowed point with this height, of several the one on the edge with the lowest"
                + " number, of these the one with the least t.");
        center(RING, 15, 0, 5, 1);
        center(RING.then(x -> x.forbid(0, 4, 6)), 15, 1, 5, 1);
        center(RING.then(x -> x.disconnect(0)).then(x -> x.connect(0, 1, 10)), 15, 0, 5, 1);
        center(RING, 5, 0, 10, 1);
        center(RING, 10, 0, 0, 1);
        center(DETOUR, 7, 1, 1, 1);
        center(PATH, 2, 0, 10, 1);
        center(x -> Desk.script(x, "1-2:6;0-1:10;2-3:1;"), 2, 0, 0, 1);
        center(x -> Desk.script(x, "2-1:6;0-1:10;2-3:1;"), 2, 0, 6, 1);
        center(TWO.then(x -> x.forbid(0, 4, 6)), 3, 0, 4, 1);
        center(TWO.then(x -> x.forbid(0, 0, 10)), 3, 0, 0, 1);
        center(TWO.then(x -> x.forbid(0, 3, 6)), 3, 0, 6, 1);
        center(WEIGHTLESS, 7, 0, 0, 1);
        center(WEIGHTLESS.then(x -> x.forbid(0, 0, 10)), 7, 0, 0, 1);
        center(PATH, 0, 0, 0, 1);
        center(PATH.then(x -> x.forbid(0, 0, 1)), 0, 0, 0, 1);
        center(THIRDS, 7, 1, 2, 3);
        // The same edge from its other end: now node 0 comes nearer with t.
        center(x -> {
            x.reset(2);
            x.connect(1, 0, 9);
        }, 3, 0, 9, 2);
    }

    private void criticalNodes() {
        desk.says(TERMS, "The critical nodes of S are those nodes i of S for which weight(i) * distance(i, center) is the radius"
                + " (none for the empty set).");
        desk.due(5, PATH, x -> x.critical(7));
        desk.due(4, PATH.then(x -> x.forbid(0, 7, 9)), x -> x.critical(7));
        desk.due(1, PATH, x -> x.critical(1));
        desk.due(0, PATH, x -> x.critical(0));
        desk.due(0, WEIGHTLESS, x -> x.critical(0));
        desk.due(7, WEIGHTLESS, x -> x.critical(7));
        desk.due(5, WEIGHTLESS, x -> x.critical(5));
        desk.due(5, THIRDS, x -> x.critical(7));
        desk.due(108, FULL, x -> x.critical(255));
    }

    private void median(Desk.Setup setup, int... due) {
        IntStream.range(0, 5).forEach(what -> desk.due(due[what], setup, x -> x.median(what)));
    }

    private void tiesOfMedians() {
        desk.says(TERMS, "The median is the allowed point with the least cost, of several the one on the edge with the lowest"
                + " number, of these the one with the least t.");
        median(PATH, 0, 10, 1, 16, 1);
        median(x -> Desk.script(x, "1-2:6;0-1:10;2-3:1;"), 0, 0, 1, 23, 1);
        median(PATH.then(Desk.weights(1, 0, 1)), 0, 0, 1, 16, 1);
        median(PATH.then(Desk.weights(0, 1, 1)), 0, 10, 1, 6, 1);
        median(PATH.then(Desk.weights(1, 1, 9)), 1, 6, 1, 22, 1);
        median(WEIGHTLESS, 0, 0, 1, 0, 1);
        median(PATH.then(x -> x.forbid(0, 0, 10)), 0, 10, 1, 16, 1);
        median(TWO, 0, 0, 1, 10, 1);
        median(TWO.then(x -> x.forbid(0, 0, 10)), 0, 0, 1, 10, 1);
        median(RING, 0, 0, 1, 40, 1);
        median(FULL, 0, 0, 1, 4950, 1);
    }

    private void groups(Desk.Setup setup, int... due) {
        IntStream.range(0, due.length).forEach(i -> desk.due(due[i], setup, x -> x.group(due.length, i)));
    }

    private void divisions() {
        desk.says(TERMS, "For k centers (1 to 3), the nodes are divided into k groups, some of which can be empty; the radius of"
                + " such a division is the greatest radius of its groups.");
        desk.fraction(1, 2, PAIR, x -> x.radiusOf(1, 0), x -> x.radiusOf(1, 1));
        desk.fraction(0, 1, PAIR, x -> x.radiusOf(2, 0), x -> x.radiusOf(2, 1));
        desk.fraction(0, 1, PAIR, x -> x.radiusOf(3, 0), x -> x.radiusOf(3, 1));
        groups(PAIR, 2, 1, 0);
        groups(WEIGHTLESS, 7, 0, 0);
        desk.refused(ARGUMENT, PATH, x -> x.radiusOf(0, 0), x -> x.radiusOf(4, 0), x -> x.group(0, 0), x -> x.group(4, 0));
        desk.says(TERMS, "The k-radius is the least radius of a division.");
        desk.due(8, PATH, x -> x.radiusOf(1, 0));
        desk.due(3, PATH, x -> x.radiusOf(2, 0));
        desk.due(0, PATH, x -> x.radiusOf(3, 0));
        desk.due(5, TOWNS, x -> x.radiusOf(3, 0));
        desk.fraction(900, 1, FULL, x -> x.radiusOf(1, 0), x -> x.radiusOf(1, 1));
        desk.due(5, PATH.then(x -> x.forbid(1, 0, 6)), x -> x.radiusOf(2, 0));
        desk.due(6, PATH.then(x -> x.forbid(1, 0, 6)).then(x -> x.forbid(0, 0, 10)), x -> x.radiusOf(2, 0));
    }

    private void chosenDivisions() {
        desk.says(TERMS, "The chosen division is determined like this: the first group is, of all sets of nodes whose radius is at"
                + " most the k-radius, and for which the other nodes have a (k - 1)-radius of at most the k-radius, the one with"
                + " the greatest bit mask; the second group is determined from the other nodes likewise, with k - 1 in place of k"
                + " but the same bound; the last group has all nodes that are left.");
        groups(PATH, 7);
        groups(PATH, 6, 1);
        groups(PATH, 4, 2, 1);
        groups(STAR, 31);
        groups(STAR, 19, 12);
        groups(STAR, 16, 9, 6);
        groups(TOWNS, 63);
        groups(TOWNS, 48, 14, 1);
        groups(TWO, 2, 1);
        groups(FULL, 255);
        groups(FULL.then(x -> Desk.script(x, "w0=0;w1=0;w2=0;w3=0;w4=0;w5=0;w6=0;w7=0;")), 255, 0, 0);
        desk.says(TERMS, "(The k-radius of a set of nodes is meant with its nodes alone; the 0-radius of the empty set is 0, and"
                + " other sets have none.)");
        groups(PAIR, 3);
        groups(PAIR, 2, 1);
        groups(WEIGHTLESS, 7, 0);
        desk.due(0, TOWNS, x -> x.radius(0, 0));
    }

    private void coverings() {
        desk.says(TERMS, "the nodes can be covered by m centers if they can be divided into m groups, each with a radius of at"
                + " most r");
        int[][] due = {{0, 1, 3}, {0, 1000, 3}, {2999, 1000, 3}, {3, 1, 2}, {3000, 1000, 2}, {3001, 1000, 2}, {7999, 1000, 2},
            {8, 1, 1}, {8000, 1000, 1}, {MOST, 1, 1}, {MOST, 1000, 1}};
        for (int[] d : due) {
            desk.due(d[2], PATH, x -> x.covering(d[0], d[1]));
        }
        int[][] thirds = {{10666, 1000, 2}, {10667, 1000, 1}, {32, 3, 1}, {31, 3, 2}, {64, 6, 1}, {3999, 1000, 3}, {4, 1, 2}};
        for (int[] d : thirds) {
            desk.due(d[2], THIRDS, x -> x.covering(d[0], d[1]));
        }
        int[][] line = {{0, 1, 8}, {24999, 1000, 8}, {25, 1, 4}, {49, 1, 4}, {50, 1, 3}, {74, 1, 3}, {75, 1, 2}, {174, 1, 2},
            {175, 1, 1}};
        for (int[] d : line) {
            desk.due(d[2], LINE, x -> x.covering(d[0], d[1]));
        }
    }

    private void changedWeights() {
        desk.says(TERMS, "For a parameter s from 0 to 10, the changed weights are weight(i) + s * trend(i).");
        Desk.Setup trending = PATH.then(x -> x.setTrend(2, 1));
        desk.fraction(8, 1, trending, x -> x.changedRadius(0, 0), x -> x.changedRadius(0, 1));
        desk.fraction(32, 3, trending, x -> x.changedRadius(1, 0), x -> x.changedRadius(1, 1));
        desk.fraction(44, 3, trending, x -> x.changedRadius(10, 0), x -> x.changedRadius(10, 1));
        desk.due(900, FULL, x -> x.changedRadius(0, 0));
        desk.due(1800, FULL, x -> x.changedRadius(1, 0));
        desk.due(9900, FULL, x -> x.changedRadius(10, 0));
        desk.refused(ARGUMENT, FULL, x -> x.changedRadius(-1, 0), x -> x.changedRadius(11, 0));
        desk.due(8, trending.then(x -> x.changedRadius(10, 0)), x -> x.radius(7, 0));
    }

    // ---- the promises

    /** A network that is not connected, with and without edges, and one that is, without edges. */
    private void needsCenters(Desk.Call good, Desk.Call badArgument) {
        Desk.Setup[] without = {NEW, APART, LONE, x -> x.reset(2), PAIR.then(x -> x.disconnect(0)),
            FULL.then(x -> x.reset(8)), LINE.then(x -> x.disconnect(6))};
        for (Desk.Setup setup : without) {
            desk.refused(STATE, setup, good);
        }
        desk.refused(ARGUMENT, NEW, badArgument);
        desk.refused(ARGUMENT, APART, badArgument);
        desk.refused(ARGUMENT, LONE, badArgument);
    }

    private void radius() {
        desk.says(21, "Returns the radius of a set of nodes.");
        desk.quiet(PATH, x -> x.radius(7, 0), x -> x.radius(0, 1));
        desk.says(21, "`set`: the set");
        desk.due(0, PATH, x -> x.radius(0, 0));
        desk.due(5, PATH, x -> x.radius(3, 0));
        desk.due(8, PATH, x -> x.radius(7, 0));
        desk.due(900, FULL, x -> x.radius(255, 0));
        desk.says(21, "`part`: 0 for the numerator, 1 for the denominator");
        desk.due(32, THIRDS, x -> x.radius(7, 0));
        desk.due(3, THIRDS, x -> x.radius(7, 1));
        desk.says(21, "Returns that part of the radius.");
        desk.fraction(1, 2, PAIR, x -> x.radius(3, 0), x -> x.radius(3, 1));
        desk.says(21, "Throws `IllegalArgumentException` if set contains a bit that is no node, or part is neither 0 nor 1");
        BoundsDistance.badSets((setup, set) -> desk.refused(ARGUMENT, setup, x -> x.radius(set, 0)));
        desk.refused(ARGUMENT, PATH, x -> x.radius(7, -1), x -> x.radius(7, 2), x -> x.radius(0, LEAST), x -> x.radius(0, MOST));
        desk.says(21, "Throws `IllegalStateException` if the network is not connected, or has no edges");
        needsCenters(x -> x.radius(0, 0), x -> x.radius(16, 0));
        needsCenters(x -> x.radius(1, 1), x -> x.radius(1, 2));
        desk.due(0, PAIR, x -> x.radius(1, 0));
    }

    private void center() {
        desk.says(22, "Returns where the center of a set of nodes lies.");
        desk.quiet(PATH, x -> x.center(7, 0), x -> x.center(0, 2));
        desk.says(22, "`set`: the set");
        center(PATH, 0, 0, 0, 1);
        center(PATH, 7, 0, 8, 1);
        center(FULL, 255, 0, 0, 1);
        desk.says(22, "`what`: 0 its edge, 1 the numerator and 2 the denominator of t");
        center(THIRDS, 7, 1, 2, 3);
        desk.says(22, "Returns that number.");
        center(THIRDS, 6, 1, 4, 1);
        desk.says(22, "Throws `IllegalArgumentException` if set contains a bit that is no node, or what is not 0 to 2");
        BoundsDistance.badSets((setup, set) -> desk.refused(ARGUMENT, setup, x -> x.center(set, 0)));
        desk.refused(ARGUMENT, PATH, x -> x.center(7, -1), x -> x.center(7, 3), x -> x.center(0, LEAST), x -> x.center(0, MOST));
        desk.says(22, "Throws `IllegalStateException` if the network is not connected, or has no edges");
        needsCenters(x -> x.center(0, 0), x -> x.center(16, 0));
        needsCenters(x -> x.center(1, 2), x -> x.center(1, 3));
        desk.due(0, PAIR, x -> x.center(1, 0));
    }

    private void critical() {
        desk.says(23, "Returns the critical nodes of a set of nodes.");
        desk.quiet(PATH, x -> x.critical(7), x -> x.critical(0));
        desk.says(23, "`set`: the set");
        desk.due(0, PATH, x -> x.critical(0));
        desk.due(6, PATH, x -> x.critical(6));
        desk.says(23, "Returns a bit mask.");
        desk.due(128, FULL, x -> x.critical(128));
        desk.says(23, "Throws `IllegalArgumentException` if set contains a bit that is no node");
        BoundsDistance.badSets((setup, set) -> desk.refused(ARGUMENT, setup, x -> x.critical(set)));
        desk.says(23, "Throws `IllegalStateException` if the network is not connected, or has no edges");
        needsCenters(x -> x.critical(1), x -> x.critical(16));
        desk.due(1, PAIR, x -> x.critical(1));
    }

    private void median() {
        desk.says(24, "Returns something about the median.");
        desk.quiet(PATH, x -> x.median(0), x -> x.median(4));
        desk.says(24, "`what`: 0 its edge, 1 the numerator and 2 the denominator of t, 3 the numerator and 4 the denominator of its"
                + " cost");
        median(PATH.then(Desk.weights(1, 1, 9)), 1, 6, 1, 22, 1);
        desk.says(24, "Returns that number.");
        median(PATH.then(Desk.weights(9, 9, 9)), 0, 10, 1, 144, 1);
        desk.says(24, "Throws `IllegalArgumentException` if what is not 0 to 4");
        desk.refused(ARGUMENT, PATH, x -> x.median(-1), x -> x.median(5), x -> x.median(LEAST), x -> x.median(MOST));
        desk.says(24, "Throws `IllegalStateException` if the network is not connected, or has no edges");
        needsCenters(x -> x.median(0), x -> x.median(5));
        needsCenters(x -> x.median(4), x -> x.median(-1));
        desk.due(1, PAIR, x -> x.median(3));
    }

    private void radiusOf() {
        desk.says(25, "Returns the k-radius of all nodes.");
        desk.quiet(PATH, x -> x.radiusOf(1, 0), x -> x.radiusOf(3, 1));
        desk.says(25, "`k`: the number of centers, 1 to 3");
        desk.due(32, THIRDS, x -> x.radiusOf(1, 0));
        desk.due(4, THIRDS, x -> x.radiusOf(2, 0));
        desk.due(0, THIRDS, x -> x.radiusOf(3, 0));
        desk.says(25, "`part`: 0 for the numerator, 1 for the denominator");
        desk.due(3, THIRDS, x -> x.radiusOf(1, 1));
        desk.due(1, THIRDS, x -> x.radiusOf(2, 1));
        desk.says(25, "Returns that part of the k-radius.");
        Desk.Setup halves = PATH.then(Desk.weights(1, 3, 2)).then(x -> x.forbid(1, 0, 6));
        desk.fraction(15, 2, halves, x -> x.radiusOf(2, 0), x -> x.radiusOf(2, 1));
        desk.says(25, "Throws `IllegalArgumentException` if k is out of range, or part is neither 0 nor 1");
        desk.refused(ARGUMENT, PATH, x -> x.radiusOf(0, 0), x -> x.radiusOf(4, 0), x -> x.radiusOf(-1, 0),
                x -> x.radiusOf(LEAST, 0), x -> x.radiusOf(MOST, 0), x -> x.radiusOf(1, -1), x -> x.radiusOf(3, 2),
                x -> x.radiusOf(2, LEAST), x -> x.radiusOf(2, MOST));
        desk.says(25, "Throws `IllegalStateException` if the network is not connected, or has no edges");
        needsCenters(x -> x.radiusOf(1, 0), x -> x.radiusOf(0, 0));
        needsCenters(x -> x.radiusOf(3, 1), x -> x.radiusOf(3, 2));
        desk.due(0, PAIR, x -> x.radiusOf(3, 0));
    }

    private void group() {
        desk.says(26, "Returns a group of the chosen division.");
        desk.quiet(PATH, x -> x.group(1, 0), x -> x.group(3, 2));
        desk.says(26, "`k`: the number of centers, 1 to 3");
        desk.due(7, PATH, x -> x.group(1, 0));
        desk.due(6, PATH, x -> x.group(2, 0));
        desk.due(4, PATH, x -> x.group(3, 0));
        desk.says(26, "`i`: the group, 0 to k - 1");
        desk.due(1, PATH, x -> x.group(2, 1));
        desk.due(2, PATH, x -> x.group(3, 1));
        desk.due(1, PATH, x -> x.group(3, 2));
        desk.says(26, "Returns its nodes, as a bit mask.");
        desk.due(255, FULL, x -> x.group(1, 0));
        desk.due(0, PAIR, x -> x.group(3, 2));
        desk.says(26, "Throws `IllegalArgumentException` if k is out of range, or i is not 0 to k - 1");
        desk.refused(ARGUMENT, PATH, x -> x.group(0, 0), x -> x.group(4, 0), x -> x.group(4, 3), x -> x.group(-1, 0),
                x -> x.group(LEAST, 0), x -> x.group(MOST, 0), x -> x.group(1, 1), x -> x.group(2, 2), x -> x.group(3, 3),
                x -> x.group(1, -1), x -> x.group(3, -1), x -> x.group(3, LEAST), x -> x.group(3, MOST), x -> x.group(0, -1));
        desk.says(26, "Throws `IllegalStateException` if the network is not connected, or has no edges");
        needsCenters(x -> x.group(1, 0), x -> x.group(0, 0));
        needsCenters(x -> x.group(3, 2), x -> x.group(3, 3));
        desk.due(3, PAIR, x -> x.group(1, 0));
    }

    private void covering() {
        desk.says(27, "Returns the least number of centers by which all nodes can be covered.");
        desk.quiet(PATH, x -> x.covering(0, 1), x -> x.covering(8, 1));
        desk.due(1, WEIGHTLESS, x -> x.covering(0, 1));
        desk.due(3, PATH.then(x -> x.forbid(1, 0, 6)), x -> x.covering(3, 1));
        desk.says(27, "`p`: the numerator of r, 0 or more");
        desk.due(3, PATH, x -> x.covering(0, 1));
        desk.due(1, PATH, x -> x.covering(MOST, 1));
        desk.says(27, "`q`: the denominator of r, 1 to 1000");
        desk.due(2, PATH, x -> x.covering(3, 1));
        desk.due(3, PATH, x -> x.covering(3, 1000));
        desk.says(27, "Returns the number, 1 to 8.");
        desk.due(8, FULL, x -> x.covering(0, 1));
        desk.due(1, FULL, x -> x.covering(900, 1));
        desk.due(2, FULL, x -> x.covering(899999, 1000));
        desk.due(8, LINE, x -> x.covering(0, 1000));
        desk.says(27, "Throws `IllegalArgumentException` if p or q is out of range");
        desk.refused(ARGUMENT, PATH, x -> x.covering(-1, 1), x -> x.covering(LEAST, 1), x -> x.covering(1, 0),
                x -> x.covering(0, 0), x -> x.covering(1, 1001), x -> x.covering(1, -1), x -> x.covering(-1, -1),
                x -> x.covering(1, LEAST), x -> x.covering(1, MOST));
        desk.says(27, "Throws `IllegalStateException` if the network is not connected, or has no edges");
        needsCenters(x -> x.covering(0, 1), x -> x.covering(-1, 1));
        needsCenters(x -> x.covering(MOST, 1000), x -> x.covering(0, 1001));
        desk.due(2, PAIR, x -> x.covering(0, 1));
    }

    private void covered() {
        desk.says(28, "Returns the nodes i with weight(i) * distance(i, point) at most r.");
        desk.quiet(PATH, x -> x.covered(0, 0, 0));
        desk.due(7, PATH, x -> x.covered(0, 8, 8));
        desk.due(2, PATH, x -> x.covered(0, 8, 7));
        desk.due(2, PATH, x -> x.covered(0, 8, 2));
        desk.due(0, PATH, x -> x.covered(0, 8, 1));
        desk.due(7, WEIGHTLESS, x -> x.covered(0, 8, 0));
        desk.due(6, PATH.then(x -> x.setWeight(0, 2)), x -> x.covered(0, 8, 15));
        desk.due(7, PATH.then(x -> x.setWeight(0, 2)), x -> x.covered(0, 8, 16));
        desk.due(2, PATH.then(x -> x.forbid(0, 0, 10)), x -> x.covered(0, 8, 7));
        desk.says(28, "`edge`: an edge");
        desk.due(1, PATH, x -> x.covered(0, 0, 0));
        desk.due(2, PATH, x -> x.covered(1, 0, 0));
        desk.due(147, FULL, x -> x.covered(0, 0, 899));
        desk.says(28, "`t`: where the point is, an integer");
        desk.due(2, PATH, x -> x.covered(0, 10, 0));
        desk.due(4, PATH, x -> x.covered(1, 6, 0));
        desk.says(28, "`r`: the number r, 0 or more");
        desk.due(1, PATH, x -> x.covered(0, 0, 0));
        desk.due(7, PATH, x -> x.covered(0, 0, MOST));
        desk.says(28, "Returns a bit mask.");
        desk.due(255, FULL, x -> x.covered(0, 0, 900));
        desk.says(28, "Throws `IndexOutOfBoundsException` if there is no such edge");
        desk.refused(INDEX, NEW, x -> x.covered(0, 0, 0), x -> x.covered(0, -1, -1));
        desk.refused(INDEX, LONE, x -> x.covered(0, 0, 0));
        desk.refused(INDEX, PATH, x -> x.covered(2, 0, 0), x -> x.covered(-1, 0, 0), x -> x.covered(2, -1, 0),
                x -> x.covered(2, 0, -1), x -> x.covered(LEAST, 0, 0), x -> x.covered(MOST, 0, 0));
        desk.refused(INDEX, APART, x -> x.covered(1, 0, 0), x -> x.covered(-1, -1, -1));
        desk.says(28, "Throws `IllegalArgumentException` if t is not 0 to the length of the edge, or r is negative");
        desk.refused(ARGUMENT, PATH, x -> x.covered(0, -1, 0), x -> x.covered(0, 11, 0), x -> x.covered(1, 7, 0),
                x -> x.covered(0, LEAST, 0), x -> x.covered(0, MOST, 0), x -> x.covered(0, 0, -1), x -> x.covered(0, 10, LEAST));
        desk.refused(ARGUMENT, APART, x -> x.covered(0, -1, 0), x -> x.covered(0, 11, 0), x -> x.covered(0, 0, -1));
        desk.says(28, "Throws `IllegalStateException` if the network is not connected");
        desk.refused(STATE, APART, x -> x.covered(0, 0, 0), x -> x.covered(0, 10, MOST));
        desk.refused(STATE, PATH.then(x -> x.disconnect(1)), x -> x.covered(0, 5, 5));
    }

    private void changedRadius() {
        desk.says(29, "Returns the radius of all nodes with changed weights.");
        Desk.Setup trending = PATH.then(x -> x.setTrend(2, 1));
        desk.quiet(trending, x -> x.changedRadius(0, 0), x -> x.changedRadius(10, 1));
        desk.due(15, trending.then(x -> x.forbid(1, 4, 5)), x -> x.changedRadius(10, 0));
        desk.due(0, WEIGHTLESS, x -> x.changedRadius(10, 0));
        desk.says(29, "`s`: the parameter, 0 to 10");
        desk.due(8, trending, x -> x.changedRadius(0, 0));
        desk.due(44, trending, x -> x.changedRadius(10, 0));
        desk.says(29, "`part`: 0 for the numerator, 1 for the denominator");
        desk.due(1, trending, x -> x.changedRadius(0, 1));
        desk.due(3, trending, x -> x.changedRadius(10, 1));
        desk.says(29, "Returns that part of the radius.");
        desk.fraction(32, 3, trending, x -> x.changedRadius(1, 0), x -> x.changedRadius(1, 1));
        desk.says(29, "Throws `IllegalArgumentException` if s is out of range, or part is neither 0 nor 1");
        desk.refused(ARGUMENT, trending, x -> x.changedRadius(-1, 0), x -> x.changedRadius(11, 0),
                x -> x.changedRadius(LEAST, 0), x -> x.changedRadius(MOST, 0), x -> x.changedRadius(0, -1),
                x -> x.changedRadius(10, 2), x -> x.changedRadius(0, LEAST), x -> x.changedRadius(0, MOST));
        desk.says(29, "Throws `IllegalStateException` if the network is not connected, or has no edges");
        needsCenters(x -> x.changedRadius(0, 0), x -> x.changedRadius(-1, 0));
        needsCenters(x -> x.changedRadius(10, 1), x -> x.changedRadius(10, 2));
        desk.due(1, PAIR, x -> x.changedRadius(10, 0));
    }

    private void radiusWithout() {
        desk.says(30, "Returns the radius of all nodes if an edge were removed, with its stretches.");
        Desk.Setup ringed = PATH.then(x -> x.connect(2, 0, 20)).then(x -> x.forbid(0, 1, 2)).then(x -> x.forbid(2, 6, 8));
        desk.quiet(ringed, x -> x.radiusWithout(0, 0), x -> x.radiusWithout(2, 1));
        desk.due(14, ringed, x -> x.radiusWithout(0, 0));
        desk.due(8, ringed, x -> x.radiusWithout(2, 0));
        desk.due(8, ringed.then(x -> x.radiusWithout(0, 0)), x -> x.radius(7, 0));
        desk.says(30, "`edge`: an edge");
        desk.due(1, DETOUR, x -> x.radiusWithout(0, 0));
        desk.due(11, DETOUR, x -> x.radiusWithout(1, 0));
        desk.due(11, DETOUR, x -> x.radiusWithout(2, 0));
        desk.says(30, "`part`: 0 for the numerator, 1 for the denominator");
        desk.due(1, DETOUR, x -> x.radiusWithout(0, 1));
        desk.due(2, DETOUR, x -> x.radiusWithout(2, 1));
        desk.says(30, "NONE if the network would not be connected, or have no edges");
        IntStream.range(0, 2).forEach(part -> {
            desk.due(NONE, PAIR, x -> x.radiusWithout(0, part));
            desk.due(NONE, PATH, x -> x.radiusWithout(0, part));
            desk.due(NONE, PATH, x -> x.radiusWithout(1, part));
            desk.due(NONE, APART, x -> x.radiusWithout(0, part));
            desk.due(NONE, x -> Desk.script(x, "0-1:1;1-2:1;0-2:1;"), x -> x.radiusWithout(2, part));
            desk.due(NONE, LINE, x -> x.radiusWithout(6, part));
        });
        desk.due(15, RING, x -> x.radiusWithout(3, 0));
        desk.quiet(PATH, x -> x.radiusWithout(0, 0));
        desk.says(30, "Throws `IndexOutOfBoundsException` if there is no such edge");
        desk.refused(INDEX, NEW, x -> x.radiusWithout(0, 0), x -> x.radiusWithout(0, 2), x -> x.radiusWithout(-1, 0));
        desk.refused(INDEX, LONE, x -> x.radiusWithout(0, 0));
        desk.refused(INDEX, PATH, x -> x.radiusWithout(2, 0), x -> x.radiusWithout(-1, -1), x -> x.radiusWithout(LEAST, 0),
                x -> x.radiusWithout(MOST, 2));
        desk.refused(INDEX, FULL, x -> x.radiusWithout(12, 0));
        desk.says(30, "Throws `IllegalArgumentException` if part is neither 0 nor 1");
        desk.refused(ARGUMENT, DETOUR, x -> x.radiusWithout(0, -1), x -> x.radiusWithout(0, 2), x -> x.radiusWithout(0, LEAST),
                x -> x.radiusWithout(0, MOST));
        desk.refused(ARGUMENT, PAIR, x -> x.radiusWithout(0, 2));
        desk.refused(ARGUMENT, APART, x -> x.radiusWithout(0, -1));
    }
}
