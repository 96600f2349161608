import java.util.stream.IntStream;

/** The boundaries that the document names for distances, heights and costs: promises 13 to 20, and fractions. */
final class BoundsDistance {
    private static final Desk.Setup NEW = Desk.NEW;
    private static final Desk.Setup LONE = Desk.LONE;
    private static final Desk.Setup PAIR = Desk.PAIR;
    private static final Desk.Setup PATH = Desk.PATH;
    private static final Desk.Setup APART = Desk.APART;
    private static final Desk.Setup DETOUR = Desk.DETOUR;
    private static final Desk.Setup LINE = Desk.LINE;
    private static final Desk.Setup FULL = Desk.FULL;
    /** The longest way with the greatest weights. */
    private static final Desk.Setup HEAVY_LINE = LINE.then(Desk.weights(9, 9, 9, 9, 9, 9, 9, 9));
    private static final Class<?> INDEX = Desk.INDEX;
    private static final Class<?> ARGUMENT = Desk.ARGUMENT;
    private static final Class<?> STATE = Desk.STATE;
    private static final int LEAST = Desk.LEAST;
    private static final int MOST = Desk.MOST;
    private static final int NONE = Desk.NONE;
    private static final int TERMS = Desk.TERMS;

    private final Desk desk;

    BoundsDistance(Desk desk) {
        this.desk = desk;
    }

    void run() {
        fractions();
        heightsOfSets();
        cornersAndCosts();
        distance();
        next();
        diameter();
        distanceTo();
        distanceToRefusals();
        isAllowed();
        height();
        heightRefusals();
        cost();
        costRefusals();
        corner();
        cornerRefusals();
    }

    // ---- the terms

    private void fractions() {
        desk.says(TERMS, "All fractions are exact.");
        desk.fraction(349999, 1000, LINE, x -> x.distanceTo(7, 0, 1, 1000, 0), x -> x.distanceTo(7, 0, 1, 1000, 1));
        desk.fraction(3149991, 1000, HEAVY_LINE, x -> x.height(255, 0, 1, 1000, 0), x -> x.height(255, 0, 1, 1000, 1));
        desk.fraction(6299973, 500, HEAVY_LINE, x -> x.cost(0, 1, 1000, 0), x -> x.cost(0, 1, 1000, 1));
        desk.fraction(1, 999, PAIR, x -> x.distanceTo(0, 0, 1, 999, 0), x -> x.distanceTo(0, 0, 1, 999, 1));
        desk.says(TERMS, "Fractions are returned in lowest terms, with a denominator above 0; 0 is 0 / 1.");
        desk.fraction(1, 2, PAIR, x -> x.distanceTo(0, 0, 500, 1000, 0), x -> x.distanceTo(0, 0, 500, 1000, 1));
        desk.fraction(1, 1, PAIR, x -> x.distanceTo(0, 0, 1000, 1000, 0), x -> x.distanceTo(0, 0, 1000, 1000, 1));
        desk.fraction(0, 1, PAIR, x -> x.distanceTo(0, 0, 0, 1000, 0), x -> x.distanceTo(0, 0, 0, 1000, 1));
        desk.fraction(1, 2, PAIR, x -> x.height(3, 0, 2, 4, 0), x -> x.height(3, 0, 2, 4, 1));
        desk.fraction(0, 1, PAIR, x -> x.height(1, 0, 0, 7, 0), x -> x.height(1, 0, 0, 7, 1));
        desk.fraction(1, 1, PAIR, x -> x.cost(0, 3, 7, 0), x -> x.cost(0, 3, 7, 1));
        desk.fraction(0, 1, PAIR.then(Desk.weights(0, 0)), x -> x.cost(0, 3, 7, 0), x -> x.cost(0, 3, 7, 1));
        Desk.Setup twos = PAIR.then(Desk.weights(2, 2));
        desk.fraction(1, 2, twos, x -> x.corner(0, 1, 0), x -> x.corner(0, 1, 1));
        desk.fraction(1, 1, twos, x -> x.corner(0, 1, 2), x -> x.corner(0, 1, 3));
        desk.fraction(0, 1, twos, x -> x.corner(0, 0, 0), x -> x.corner(0, 0, 1));
        desk.fraction(1, 1, twos, x -> x.radius(3, 0), x -> x.radius(3, 1));
        desk.fraction(1, 2, twos, x -> x.center(3, 1), x -> x.center(3, 2));
        desk.fraction(0, 1, twos, x -> x.radius(0, 0), x -> x.radius(0, 1));
        desk.fraction(0, 1, twos, x -> x.center(0, 1), x -> x.center(0, 2));
        desk.fraction(0, 1, twos, x -> x.median(1), x -> x.median(2));
        desk.fraction(2, 1, twos, x -> x.median(3), x -> x.median(4));
        desk.fraction(1, 1, twos, x -> x.radiusOf(1, 0), x -> x.radiusOf(1, 1));
        desk.fraction(0, 1, twos, x -> x.radiusOf(2, 0), x -> x.radiusOf(2, 1));
        desk.fraction(1, 1, twos, x -> x.changedRadius(10, 0), x -> x.changedRadius(10, 1));
        Desk.Setup triangle = DETOUR.then(Desk.weights(2, 2, 2));
        desk.fraction(11, 1, triangle, x -> x.radiusWithout(1, 0), x -> x.radiusWithout(1, 1));
        desk.fraction(1, 2, PAIR, x -> x.radius(3, 0), x -> x.radius(3, 1));
    }

    private void heightsOfSets() {
        desk.says(TERMS, "is the greatest weight(i) * distance(i, point) of all nodes i of S (0 for the empty set)");
        Desk.Setup weighted = PATH.then(Desk.weights(9, 0, 1));
        int[] due = {0, 45, 0, 45, 11, 45, 11, 45};
        IntStream.range(0, 8).forEach(set -> desk.due(due[set], weighted, x -> x.height(set, 0, 5, 1, 0)));
        desk.fraction(0, 1, FULL, x -> x.height(0, 3, 7, 9, 0), x -> x.height(0, 3, 7, 9, 1));
        desk.due(0, FULL.then(x -> x.setWeight(3, 0)), x -> x.height(8, 0, 0, 1, 0));
    }

    private void cornersAndCosts() {
        desk.says(TERMS, "Along an edge, the height for the set of all nodes is a broken line in t.");
        IntStream.rangeClosed(0, 10).forEach(t ->
                desk.due(t <= 8 ? 16 - t : t, PATH, x -> x.height(7, 0, t, 1, 0)));
        desk.says(TERMS, "Its corners are t = 0, all t at which its slope changes, and t = length, in ascending order.");
        corners(PATH, 0, new int[][] {{0, 1, 16, 1}, {8, 1, 8, 1}, {10, 1, 10, 1}});
        corners(PATH, 1, new int[][] {{0, 1, 10, 1}, {6, 1, 16, 1}});
        corners(PAIR, 0, new int[][] {{0, 1, 1, 1}, {1, 2, 1, 2}, {1, 1, 1, 1}});
        corners(PATH.then(Desk.weights(0, 0, 0)), 0, new int[][] {{0, 1, 0, 1}, {10, 1, 0, 1}});
        corners(PATH.then(Desk.weights(1, 0, 2)), 1, new int[][] {{0, 1, 12, 1}, {2, 3, 32, 3}, {6, 1, 16, 1}});
        corners(DETOUR, 0, new int[][] {{0, 1, 2, 1}, {4, 1, 6, 1}, {9, 2, 11, 2}, {5, 1, 6, 1}, {11, 2, 11, 2},
            {6, 1, 6, 1}, {10, 1, 2, 1}});
        corners(FULL, 0, new int[][] {{0, 1, 900, 1}, {25, 1, 1125, 1}, {50, 1, 900, 1}});
        // The slope changes by no more than 1 where a line meets a slightly steeper one.
        Desk.Setup overtaking = x -> {
            x.reset(3);
            Desk.script(x, "0-1:10;2-0:6;w0=2;w1=0;");
        };
        corners(overtaking, 0, new int[][] {{0, 1, 6, 1}, {6, 1, 12, 1}, {10, 1, 20, 1}});
        Desk.Setup turnedAround = x -> {
            x.reset(3);
            Desk.script(x, "1-0:10;2-0:6;w0=2;w1=0;");
        };
        corners(turnedAround, 0, new int[][] {{0, 1, 20, 1}, {4, 1, 12, 1}, {10, 1, 6, 1}});
        // Where a node turns below the height, there is no corner.
        corners(RINGED, 0, new int[][] {{0, 1, 6, 1}, {2, 1, 8, 1}, {4, 1, 6, 1}});
        corners(RINGED.then(x -> x.setWeight(3, 9)), 0, new int[][] {{0, 1, 9, 1}, {4, 1, 45, 1}});
        desk.says(TERMS, "The cost of a point is the sum of weight(i) * distance(i, point) of all nodes i.");
        desk.due(2 * 4 + 3 * 6 + 4 * 12, PATH.then(Desk.weights(2, 3, 4)), x -> x.cost(0, 4, 1, 0));
        desk.due(0, PATH.then(Desk.weights(0, 0, 0)), x -> x.cost(0, 4, 1, 0));
        desk.due(4950, FULL, x -> x.cost(0, 0, 1, 0));
        desk.due(9 * 50 * 28, HEAVY_LINE, x -> x.cost(0, 0, 1, 0));
    }

    /** A ring 0 --4-- 1 --6-- 2 --6-- 0, and 0 --1-- 3. */
    private static final Desk.Setup RINGED = x -> Desk.script(x, "0-1:4;1-2:6;2-0:6;0-3:1;");

    private void corners(Desk.Setup setup, int edge, int[][] due) {
        IntStream.range(0, due.length * 4).forEach(i ->
                desk.due(due[i / 4][i % 4], setup, x -> x.corner(edge, i / 4, i % 4)));
        IntStream.range(0, 4).forEach(what -> {
            desk.due(NONE, setup, x -> x.corner(edge, due.length, what));
            desk.due(NONE, setup, x -> x.corner(edge, -1, what));
        });
    }

    // ---- the promises

    private void distance() {
        desk.says(13, "Returns the distance of two nodes.");
        desk.due(16, PATH, x -> x.distance(0, 2));
        desk.due(16, PATH, x -> x.distance(2, 0));
        desk.due(1, PAIR, x -> x.distance(0, 1));
        desk.due(350, LINE, x -> x.distance(7, 0));
        desk.quiet(PATH, x -> x.distance(0, 2));
        desk.says(13, "`a`: a node");
        desk.due(0, LONE, x -> x.distance(0, 0));
        desk.due(100, FULL, x -> x.distance(7, 1));
        desk.says(13, "`b`: a node");
        desk.due(0, NEW, x -> x.distance(3, 3));
        desk.due(50, FULL, x -> x.distance(0, 7));
        desk.says(13, "NONE if there is no path between them");
        desk.due(NONE, NEW, x -> x.distance(0, 3));
        desk.due(NONE, APART, x -> x.distance(1, 2));
        desk.due(NONE, PATH.then(x -> x.disconnect(1)), x -> x.distance(0, 2));
        desk.quiet(NEW, x -> x.distance(0, 3));
        desk.says(13, "Throws `IndexOutOfBoundsException` if one of the nodes does not exist");
        desk.refused(INDEX, NEW, x -> x.distance(-1, 0), x -> x.distance(0, -1), x -> x.distance(4, 0),
                x -> x.distance(0, 4), x -> x.distance(4, 4), x -> x.distance(LEAST, 0), x -> x.distance(0, MOST));
        desk.refused(INDEX, LONE, x -> x.distance(0, 1), x -> x.distance(1, 0));
        desk.refused(INDEX, FULL, x -> x.distance(7, 8), x -> x.distance(8, 8));
    }

    private void next() {
        desk.says(14, "Returns the next node on a shortest path from a node to another one");
        desk.due(1, PATH, x -> x.next(0, 2));
        desk.due(2, DETOUR, x -> x.next(0, 1));
        desk.due(6, LINE, x -> x.next(7, 0));
        desk.quiet(PATH, x -> x.next(0, 2));
        desk.says(14, "the lowest node that is joined with a by an edge with which such a path begins");
        Desk.Setup square = x -> Desk.script(x, "0-3:2;3-1:2;0-2:1;2-1:3;");
        desk.due(2, square, x -> x.next(0, 1));
        desk.due(1, square.then(x -> x.connect(0, 1, 4)), x -> x.next(0, 1));
        desk.due(2, square.then(x -> x.connect(0, 1, 5)), x -> x.next(0, 1));
        desk.due(1, PAIR, x -> x.next(0, 1));
        desk.due(0, PAIR, x -> x.next(1, 0));
        desk.says(14, "`a`: a node");
        desk.due(1, FULL, x -> x.next(0, 5));
        desk.due(3, FULL, x -> x.next(7, 2));
        desk.says(14, "`b`: a node");
        desk.due(7, FULL, x -> x.next(0, 7));
        desk.says(14, "NONE if a and b are the same, or there is no path");
        IntStream.range(0, 4).forEach(i -> desk.due(NONE, NEW, x -> x.next(i, i)));
        desk.due(NONE, Desk.RING, x -> x.next(2, 2));
        desk.due(NONE, LONE, x -> x.next(0, 0));
        desk.due(NONE, NEW, x -> x.next(0, 3));
        desk.due(NONE, APART, x -> x.next(0, 2));
        desk.quiet(NEW, x -> x.next(0, 0), x -> x.next(0, 1));
        desk.says(14, "Throws `IndexOutOfBoundsException` if one of the nodes does not exist");
        desk.refused(INDEX, NEW, x -> x.next(-1, 0), x -> x.next(0, -1), x -> x.next(4, 0), x -> x.next(0, 4),
                x -> x.next(4, 4), x -> x.next(-1, -1), x -> x.next(LEAST, 0), x -> x.next(0, MOST));
        desk.refused(INDEX, LONE, x -> x.next(0, 1), x -> x.next(1, 1));
        desk.refused(INDEX, FULL, x -> x.next(7, 8), x -> x.next(8, 0));
    }

    private void diameter() {
        desk.says(15, "Returns the greatest distance of two nodes.");
        desk.due(16, PATH, x -> x.diameter());
        desk.due(2, DETOUR, x -> x.diameter());
        desk.due(1, PAIR, x -> x.diameter());
        desk.due(350, LINE, x -> x.diameter());
        desk.due(100, FULL, x -> x.diameter());
        desk.due(0, LONE, x -> x.diameter());
        desk.quiet(PATH, x -> x.diameter());
        desk.says(15, "NONE if the network is not connected");
        desk.due(NONE, NEW, x -> x.diameter());
        desk.due(NONE, APART, x -> x.diameter());
        desk.due(NONE, x -> x.reset(2), x -> x.diameter());
        desk.due(NONE, LINE.then(x -> x.disconnect(6)), x -> x.diameter());
        desk.quiet(NEW, x -> x.diameter());
    }

    private void distanceTo() {
        desk.says(16, "Returns the distance of a node and a point.");
        desk.quiet(PATH, x -> x.distanceTo(0, 0, 1, 2, 0));
        desk.says(16, "`node`: a node");
        desk.due(16, PATH, x -> x.distanceTo(0, 1, 6, 1, 0));
        desk.due(0, PATH, x -> x.distanceTo(2, 1, 6, 1, 0));
        desk.says(16, "`edge`: an edge");
        desk.due(2, PATH, x -> x.distanceTo(0, 0, 2, 1, 0));
        desk.due(12, PATH, x -> x.distanceTo(0, 1, 2, 1, 0));
        desk.says(16, "`p`: the numerator of t");
        desk.due(0, PATH, x -> x.distanceTo(0, 0, 0, 1, 0));
        desk.due(10, PATH, x -> x.distanceTo(0, 0, 10000, 1000, 0));
        desk.says(16, "`q`: the denominator of t, 1 to 1000");
        desk.due(5, PATH, x -> x.distanceTo(0, 0, 5, 1, 0));
        desk.due(200, PATH, x -> x.distanceTo(0, 0, 5, 1000, 1));
        desk.says(16, "`part`: 0 for the numerator, 1 for the denominator");
        desk.due(27, PATH, x -> x.distanceTo(2, 0, 5, 2, 0));
        desk.due(2, PATH, x -> x.distanceTo(2, 0, 5, 2, 1));
        desk.says(16, "Returns that part of the distance.");
        desk.fraction(3, 2, DETOUR, x -> x.distanceTo(1, 0, 17, 2, 0), x -> x.distanceTo(1, 0, 17, 2, 1));
        desk.fraction(6, 1, DETOUR, x -> x.distanceTo(1, 0, 4, 1, 0), x -> x.distanceTo(1, 0, 4, 1, 1));
    }

    private void distanceToRefusals() {
        desk.says(16, "Throws `IndexOutOfBoundsException` if there is no such node or edge");
        desk.refused(INDEX, NEW, x -> x.distanceTo(0, 0, 0, 1, 0));
        desk.refused(INDEX, PATH, x -> x.distanceTo(-1, 0, 0, 1, 0), x -> x.distanceTo(3, 0, 0, 1, 0),
                x -> x.distanceTo(0, -1, 0, 1, 0), x -> x.distanceTo(0, 2, 0, 1, 0), x -> x.distanceTo(3, 2, 0, 0, 2),
                x -> x.distanceTo(LEAST, 0, 0, 1, 0), x -> x.distanceTo(0, MOST, 0, 1, 0),
                x -> x.distanceTo(3, 0, -1, 1, 0), x -> x.distanceTo(0, 2, 0, 0, 0), x -> x.distanceTo(0, 2, 0, 1, 2));
        desk.refused(INDEX, APART, x -> x.distanceTo(4, 0, 0, 1, 0), x -> x.distanceTo(2, 1, 0, 1, 0),
                x -> x.distanceTo(2, 1, 0, 0, 0));
        desk.says(16, "Throws `IllegalArgumentException` if q is not 1 to 1000, p / q is less than 0 or greater than the length"
                + " of the edge, or part is neither 0 nor 1");
        badPoints((setup, edge, p, q) -> desk.refused(ARGUMENT, setup, x -> x.distanceTo(0, edge, p, q, 0)));
        desk.refused(ARGUMENT, PATH, x -> x.distanceTo(0, 0, 1, 1, -1), x -> x.distanceTo(0, 0, 1, 1, 2),
                x -> x.distanceTo(0, 0, 1, 1, LEAST), x -> x.distanceTo(0, 0, 1, 1, MOST));
        desk.refused(ARGUMENT, APART, x -> x.distanceTo(2, 0, 0, 0, 0), x -> x.distanceTo(2, 0, 11, 1, 0),
                x -> x.distanceTo(2, 0, 0, 1, 2));
        desk.says(16, "Throws `IllegalStateException` if there is no path between the node and the edge");
        desk.refused(STATE, APART, x -> x.distanceTo(2, 0, 0, 1, 0), x -> x.distanceTo(3, 0, 10, 1, 1));
        desk.due(10, APART, x -> x.distanceTo(0, 0, 10, 1, 0));
        desk.due(0, APART, x -> x.distanceTo(1, 0, 10, 1, 0));
    }

    private interface BadPoint {
        void on(Desk.Setup setup, int edge, int p, int q);
    }

    /** Points just outside of an edge, and denominators just outside of their range. */
    private static void badPoints(BadPoint test) {
        int[][] bad = {{0, 0}, {1, 0}, {0, 1001}, {1, 1001}, {0, -1}, {-1, -1}, {-1, 1}, {-1, 1000}, {11, 1}, {21, 2},
            {10001, 1000}, {MOST, 1}, {MOST, 1000}, {LEAST, 1}, {LEAST, LEAST}, {0, MOST}, {0, LEAST}, {LEAST, 1000}};
        for (int[] b : bad) {
            test.on(PATH, 0, b[0], b[1]);
        }
        test.on(PATH, 1, 7, 1);
        test.on(PATH, 1, 6001, 1000);
        test.on(PAIR, 0, 2, 1);
        test.on(FULL, 11, 50001, 1000);
    }

    private void isAllowed() {
        desk.says(17, "Tells whether a point is allowed.");
        Desk.Setup closed = PATH.then(x -> x.forbid(0, 9, 10)).then(x -> x.forbid(1, 0, 1));
        desk.quiet(closed, x -> Desk.truth(x.isAllowed(0, 19, 2)), x -> Desk.truth(x.isAllowed(0, 0, 1)));
        desk.says(17, "`edge`: an edge");
        desk.due(1, closed, x -> Desk.truth(x.isAllowed(0, 1, 2)));
        desk.due(0, closed, x -> Desk.truth(x.isAllowed(1, 1, 2)));
        desk.says(17, "`p`: the numerator of t");
        desk.due(1, closed, x -> Desk.truth(x.isAllowed(0, 9000, 1000)));
        desk.due(0, closed, x -> Desk.truth(x.isAllowed(0, 9001, 1000)));
        desk.due(0, closed, x -> Desk.truth(x.isAllowed(0, 9999, 1000)));
        desk.due(1, closed, x -> Desk.truth(x.isAllowed(0, 10000, 1000)));
        desk.says(17, "`q`: the denominator of t, 1 to 1000");
        desk.due(1, closed, x -> Desk.truth(x.isAllowed(1, 0, 1)));
        desk.due(0, closed, x -> Desk.truth(x.isAllowed(1, 1, 1000)));
        desk.says(17, "Returns whether it is.");
        desk.due(1, closed, x -> Desk.truth(x.isAllowed(1, 1, 1)));
        desk.due(0, closed, x -> Desk.truth(x.isAllowed(1, 999, 1000)));
        desk.due(1, APART, x -> Desk.truth(x.isAllowed(0, 5, 1)));
        desk.due(0, FULL, x -> Desk.truth(x.isAllowed(0, 25, 1)));
        desk.due(1, FULL, x -> Desk.truth(x.isAllowed(0, 0, 1)));
        desk.says(17, "Throws `IndexOutOfBoundsException` if there is no such edge");
        desk.refused(INDEX, NEW, x -> Desk.truth(x.isAllowed(0, 0, 1)), x -> Desk.truth(x.isAllowed(0, 0, 0)));
        desk.refused(INDEX, PATH, x -> Desk.truth(x.isAllowed(2, 0, 1)), x -> Desk.truth(x.isAllowed(-1, 0, 1)),
                x -> Desk.truth(x.isAllowed(2, -1, 1)), x -> Desk.truth(x.isAllowed(MOST, 0, 1001)),
                x -> Desk.truth(x.isAllowed(LEAST, 0, 1)));
        desk.says(17, "Throws `IllegalArgumentException` if q is not 1 to 1000, or p / q is less than 0 or greater than the length"
                + " of the edge");
        badPoints((setup, edge, p, q) -> desk.refused(ARGUMENT, setup, x -> Desk.truth(x.isAllowed(edge, p, q))));
    }

    private void height() {
        desk.says(18, "Returns the height of a point for a set of nodes.");
        desk.quiet(PATH, x -> x.height(7, 0, 1, 1, 0));
        desk.says(18, "`set`: the set of nodes");
        desk.due(0, PATH, x -> x.height(0, 0, 4, 1, 0));
        desk.due(12, PATH, x -> x.height(7, 0, 4, 1, 0));
        desk.due(4, PATH, x -> x.height(1, 0, 4, 1, 0));
        desk.due(900, FULL, x -> x.height(255, 0, 0, 1, 0));
        desk.says(18, "`edge`: an edge");
        desk.due(12, PATH, x -> x.height(1, 1, 2, 1, 0));
        desk.says(18, "`p`: the numerator of t");
        desk.due(16, PATH, x -> x.height(7, 0, 0, 1, 0));
        desk.due(10, PATH, x -> x.height(7, 0, 10000, 1000, 0));
        desk.says(18, "`q`: the denominator of t, 1 to 1000");
        desk.due(11, PATH, x -> x.height(7, 0, 5, 1, 0));
        desk.due(3199, PATH, x -> x.height(7, 0, 5, 1000, 0));
        desk.says(18, "`part`: 0 for the numerator, 1 for the denominator");
        desk.due(27, PATH, x -> x.height(7, 0, 5, 2, 0));
        desk.due(2, PATH, x -> x.height(7, 0, 5, 2, 1));
        desk.says(18, "Returns that part of the height.");
        desk.fraction(15, 2, PATH, x -> x.height(3, 0, 5, 2, 0), x -> x.height(3, 0, 5, 2, 1));
    }

    private void heightRefusals() {
        desk.says(18, "Throws `IndexOutOfBoundsException` if there is no such edge");
        desk.refused(INDEX, NEW, x -> x.height(0, 0, 0, 1, 0), x -> x.height(16, 0, 0, 0, 2));
        desk.refused(INDEX, LONE, x -> x.height(1, 0, 0, 1, 0));
        desk.refused(INDEX, PATH, x -> x.height(7, 2, 0, 1, 0), x -> x.height(7, -1, 0, 1, 0),
                x -> x.height(8, 2, 0, 1, 0), x -> x.height(7, 2, 0, 0, 0), x -> x.height(7, 2, 0, 1, 2),
                x -> x.height(7, LEAST, 0, 1, 0), x -> x.height(7, MOST, 0, 1, 0));
        desk.refused(INDEX, APART, x -> x.height(0, 1, 0, 1, 0), x -> x.height(-1, -1, 0, 1, 0));
        desk.says(18, "Throws `IllegalArgumentException` if set contains a bit that is no node, q is not 1 to 1000, p / q is less"
                + " than 0 or greater than the length of the edge, or part is neither 0 nor 1");
        badSets((setup, set) -> desk.refused(ARGUMENT, setup, x -> x.height(set, 0, 0, 1, 0)));
        badPoints((setup, edge, p, q) -> desk.refused(ARGUMENT, setup, x -> x.height(1, edge, p, q, 0)));
        desk.refused(ARGUMENT, PATH, x -> x.height(7, 0, 1, 1, -1), x -> x.height(7, 0, 1, 1, 2),
                x -> x.height(7, 0, 1, 1, LEAST), x -> x.height(7, 0, 1, 1, MOST));
        desk.refused(ARGUMENT, APART, x -> x.height(16, 0, 0, 1, 0), x -> x.height(1, 0, 0, 0, 0),
                x -> x.height(1, 0, 11, 1, 0), x -> x.height(1, 0, 0, 1, 2));
        desk.says(18, "Throws `IllegalStateException` if the network is not connected");
        desk.refused(STATE, APART, x -> x.height(0, 0, 0, 1, 0), x -> x.height(3, 0, 5, 1, 1), x -> x.height(15, 0, 10, 1, 0));
        desk.refused(STATE, PATH.then(x -> x.disconnect(1)), x -> x.height(3, 0, 5, 1, 0));
    }

    interface BadSet {
        void on(Desk.Setup setup, int set);
    }

    /** Sets with a bit just beyond the nodes, and far beyond them. */
    static void badSets(BadSet test) {
        for (int bad : new int[] {8, 15, 16, 128, 256, -1, LEAST, MOST, 1 << 30}) {
            test.on(PATH, bad);
        }
        test.on(PAIR, 4);
        test.on(Desk.RING, 16);
        test.on(FULL, 256);
        test.on(FULL, 511);
        test.on(FULL, -1);
        test.on(FULL, -256);
    }

    private void cost() {
        desk.says(19, "Returns the cost of a point.");
        desk.quiet(PATH, x -> x.cost(0, 1, 1, 0));
        desk.says(19, "`edge`: an edge");
        desk.due(20, PATH, x -> x.cost(0, 6, 1, 0));
        desk.due(22, PATH, x -> x.cost(1, 6, 1, 0));
        desk.says(19, "`p`: the numerator of t");
        desk.due(26, PATH, x -> x.cost(0, 0, 1, 0));
        desk.due(16, PATH, x -> x.cost(0, 10000, 1000, 0));
        desk.says(19, "`q`: the denominator of t, 1 to 1000");
        desk.due(21, PATH, x -> x.cost(0, 5, 1, 0));
        desk.due(200, PATH, x -> x.cost(0, 5, 1000, 1));
        desk.says(19, "`part`: 0 for the numerator, 1 for the denominator");
        desk.due(47, PATH, x -> x.cost(0, 5, 2, 0));
        desk.due(2, PATH, x -> x.cost(0, 5, 2, 1));
        desk.says(19, "Returns that part of the cost.");
        desk.fraction(16, 1, PATH, x -> x.cost(1, 0, 2, 0), x -> x.cost(1, 0, 2, 1));
    }

    private void costRefusals() {
        desk.says(19, "Throws `IndexOutOfBoundsException` if there is no such edge");
        desk.refused(INDEX, NEW, x -> x.cost(0, 0, 1, 0), x -> x.cost(0, 0, 0, 2));
        desk.refused(INDEX, LONE, x -> x.cost(0, 0, 1, 0));
        desk.refused(INDEX, PATH, x -> x.cost(2, 0, 1, 0), x -> x.cost(-1, 0, 1, 0), x -> x.cost(2, 0, 0, 0),
                x -> x.cost(2, 0, 1, 2), x -> x.cost(LEAST, 0, 1, 0), x -> x.cost(MOST, 0, 1, 0));
        desk.refused(INDEX, APART, x -> x.cost(1, 0, 1, 0), x -> x.cost(-1, -1, 1, 0));
        desk.says(19, "Throws `IllegalArgumentException` if q is not 1 to 1000, p / q is less than 0 or greater than the length"
                + " of the edge, or part is neither 0 nor 1");
        badPoints((setup, edge, p, q) -> desk.refused(ARGUMENT, setup, x -> x.cost(edge, p, q, 0)));
        desk.refused(ARGUMENT, PATH, x -> x.cost(0, 1, 1, -1), x -> x.cost(0, 1, 1, 2), x -> x.cost(0, 1, 1, LEAST),
                x -> x.cost(0, 1, 1, MOST));
        desk.refused(ARGUMENT, APART, x -> x.cost(0, 0, 0, 0), x -> x.cost(0, 11, 1, 0), x -> x.cost(0, 0, 1, -1));
        desk.says(19, "Throws `IllegalStateException` if the network is not connected");
        desk.refused(STATE, APART, x -> x.cost(0, 0, 1, 0), x -> x.cost(0, 10, 1, 1));
        desk.refused(STATE, PATH.then(x -> x.disconnect(1)), x -> x.cost(0, 5, 1, 0));
    }

    private void corner() {
        desk.says(20, "Returns something about a corner of the height along an edge.");
        desk.quiet(PATH, x -> x.corner(0, 1, 0), x -> x.corner(0, 3, 0));
        corners(PATH.then(x -> x.forbid(0, 7, 9)), 0, new int[][] {{0, 1, 16, 1}, {8, 1, 8, 1}, {10, 1, 10, 1}});
        desk.says(20, "`edge`: an edge");
        desk.due(16, PATH, x -> x.corner(0, 0, 2));
        desk.due(10, PATH, x -> x.corner(1, 0, 2));
        desk.due(1125, FULL, x -> x.corner(11, 1, 2));
        desk.says(20, "`i`: the number of the corner, from 0");
        desk.due(0, PATH, x -> x.corner(0, 0, 0));
        desk.due(10, PATH, x -> x.corner(0, 2, 0));
        desk.says(20, "`what`: 0 the numerator and 1 the denominator of t, 2 the numerator and 3 the denominator of the height");
        int[] due = {2, 3, 32, 3};
        IntStream.range(0, 4).forEach(what ->
                desk.due(due[what], PATH.then(Desk.weights(1, 0, 2)), x -> x.corner(1, 1, what)));
        desk.says(20, "NONE if there is no such corner");
        IntStream.range(0, 4).forEach(what -> {
            desk.due(NONE, PATH, x -> x.corner(0, 3, what));
            desk.due(NONE, PATH, x -> x.corner(1, 2, what));
            desk.due(NONE, PATH, x -> x.corner(0, -1, what));
            desk.due(NONE, PATH, x -> x.corner(0, MOST, what));
            desk.due(NONE, PATH, x -> x.corner(0, LEAST, what));
        });
    }

    private void cornerRefusals() {
        desk.says(20, "Throws `IndexOutOfBoundsException` if there is no such edge");
        desk.refused(INDEX, NEW, x -> x.corner(0, 0, 0), x -> x.corner(0, 0, 4));
        desk.refused(INDEX, LONE, x -> x.corner(0, 0, 0));
        desk.refused(INDEX, PATH, x -> x.corner(2, 0, 0), x -> x.corner(-1, 0, 0), x -> x.corner(2, 0, 4),
                x -> x.corner(2, 99, 0), x -> x.corner(LEAST, 0, 0), x -> x.corner(MOST, 0, -1));
        desk.refused(INDEX, APART, x -> x.corner(1, 0, 0), x -> x.corner(-1, 0, 4));
        desk.says(20, "Throws `IllegalArgumentException` if what is not 0 to 3");
        desk.refused(ARGUMENT, PATH, x -> x.corner(0, 0, -1), x -> x.corner(0, 0, 4), x -> x.corner(0, 99, 4),
                x -> x.corner(0, -1, -1), x -> x.corner(0, 0, LEAST), x -> x.corner(0, 0, MOST));
        desk.refused(ARGUMENT, APART, x -> x.corner(0, 0, -1), x -> x.corner(0, 0, 4));
        desk.says(20, "Throws `IllegalStateException` if the network is not connected");
        desk.refused(STATE, APART, x -> x.corner(0, 0, 0), x -> x.corner(0, 99, 0), x -> x.corner(0, -1, 3));
        desk.refused(STATE, PATH.then(x -> x.disconnect(1)), x -> x.corner(0, 0, 0));
    }
}
