import java.util.ArrayList;
import java.util.Collections;
import java.util.List;
import java.util.stream.IntStream;

/**
 * Answers follow the network as it is now: not what was asked before, what stood there once, or what a trend or a
 * parameter would make of it.
 */
final class BoundsChange {
    private static final Desk.Setup PATH = Desk.PATH;
    private static final Desk.Setup FULL = Desk.FULL;
    private static final Desk.Setup SIX_RECORDS = Desk.SIX_RECORDS;
    private static final int TERMS = Desk.TERMS;
    private static final int NONE = Desk.NONE;
    private static final List<Desk.Call> LOOKS = looks();

    private final Desk desk;

    BoundsChange(Desk desk) {
        this.desk = desk;
    }

    void run() {
        order();
        newNetworks();
        edges();
        weightsAndTrends();
        stretches();
        scriptsAndUndo();
        allRecords();
        trendsElsewhere();
        manyPoints();
    }

    /** Something of each call that only looks. */
    private static List<Desk.Call> looks() {
        List<Desk.Call> all = new ArrayList<>();
        IntStream.range(0, 4).forEach(i -> Collections.addAll(all, x -> x.count(i), x -> x.corner(0, 1, i),
                x -> x.corner(1, i, 2)));
        IntStream.range(0, 3).forEach(i -> Collections.addAll(all, x -> x.edge(1, i), x -> x.node(2, i), x -> x.stretch(0, i),
                x -> x.center(7, i), x -> x.center(6, i), x -> x.group(3, i), x -> x.distance(0, i), x -> x.next(i, 2)));
        IntStream.range(0, 2).forEach(part -> Collections.addAll(all, x -> x.radius(7, part), x -> x.radius(3, part),
                x -> x.distanceTo(2, 0, 5, 2, part), x -> x.height(7, 1, 5, 2, part), x -> x.cost(0, 5, 2, part),
                x -> x.radiusOf(2, part), x -> x.group(2, part), x -> x.changedRadius(3, part), x -> x.radiusWithout(0, part)));
        IntStream.range(0, 5).forEach(i -> Collections.addAll(all, x -> x.median(i), x -> x.covering(i * 3, 2)));
        Collections.addAll(all, x -> x.diameter(), x -> x.critical(7), x -> x.critical(5), x -> x.covered(0, 1, 9),
                x -> Desk.truth(x.isAllowed(0, 9, 2)), x -> x.fault(), x -> x.checksum());
        return all;
    }

    private static List<String> answers(NetworkCenters x, List<Desk.Call> calls) {
        List<String> answers = new ArrayList<>();
        for (Desk.Call call : calls) {
            answers.add(Desk.outcome(x, call));
        }
        return answers;
    }

    /** What was looked at before a change makes no difference behind it. */
    private void afresh(Desk.Setup setup, Desk.Setup change) {
        NetworkCenters looked = Desk.made(setup.then(x -> answers(x, LOOKS)).then(change));
        NetworkCenters fresh = Desk.made(setup.then(change));
        desk.check(answers(looked, LOOKS).equals(answers(fresh, LOOKS)), "an answer is that of the network before");
    }

    private void order() {
        desk.says(TERMS, "Every method that is marked \"undoable\" records the network");
        Desk.Setup weighted = PATH.then(Desk.weights(1, 1, 2)).then(x -> x.setTrend(0, 5)).then(x -> x.forbid(0, 7, 9));
        Desk.Setup[] setups = {Desk.NEW, Desk.APART, PATH, weighted, Desk.DETOUR, Desk.RING, FULL};
        for (Desk.Setup setup : setups) {
            List<String> due = new ArrayList<>();
            for (Desk.Call call : LOOKS) {
                due.add(Desk.outcome(Desk.made(setup), call));
            }
            desk.check(answers(Desk.made(setup), LOOKS).equals(due), "an answer depends on those before");
            List<Desk.Call> backwards = new ArrayList<>(LOOKS);
            Collections.reverse(backwards);
            Collections.reverse(due);
            desk.check(answers(Desk.made(setup), backwards).equals(due), "an answer depends on those before");
        }
    }

    private void newNetworks() {
        desk.says(2, "Starts a new network with some nodes, without edges, with the initial weights and trends.");
        afresh(FULL, PATH);
        afresh(Desk.RING, x -> x.reset(4));
        afresh(Desk.NEW, x -> x.reset(1));
        afresh(PATH.then(x -> x.forbid(0, 7, 9)), PATH);
        Desk.Setup again = PATH.then(x -> x.forbid(0, 3, 5)).then(x -> x.reset(3));
        desk.due(NONE, again, x -> x.distance(0, 1));
        desk.due(NONE, again, x -> x.next(0, 1));
        desk.due(0, again, x -> x.node(0, 2));
        desk.due(0, Desk.PAIR.then(x -> x.reset(2)), x -> x.count(3));
        desk.due(1, again.then(x -> x.connect(0, 1, 10)), x -> Desk.truth(x.isAllowed(0, 4, 1)));
        desk.due(NONE, again.then(x -> x.connect(0, 1, 10)), x -> x.distance(1, 2));
        Desk.Setup shorter = x -> {
            x.connect(0, 1, 50);
            x.forbid(0, 30, 40);
            x.reset(2);
            x.connect(0, 1, 10);
        };
        desk.due(5, shorter, x -> x.radius(3, 0));
        desk.due(5, shorter, x -> x.center(3, 1));
        desk.due(0, FULL.then(x -> x.reset(8)), x -> x.connect(0, 1, 50));
    }

    private void edges() {
        desk.says(3, "Adds an edge.");
        afresh(PATH, x -> x.connect(2, 0, 1));
        afresh(Desk.APART, x -> Desk.script(x, "1-2:1;2-3:1;"));
        // Networks that differ in one end or one length alone.
        afresh(PATH, x -> replace(x, 0, 2, 6));
        afresh(PATH, x -> replace(x, 1, 2, 7));
        afresh(PATH, x -> replace(x, 2, 1, 6));
        afresh(x -> Desk.script(x, "0-1:10;0-2:6;0-3:1;"), x -> {
            x.disconnect(2);
            x.connect(0, 3, 50);
        });
        desk.says(4, "Removes an edge with its stretches.");
        afresh(PATH, x -> x.disconnect(1));
        afresh(Desk.RING.then(x -> x.forbid(1, 0, 10)), x -> x.disconnect(0));
        afresh(FULL, x -> x.disconnect(0));
        desk.due(NONE, Desk.PAIR.then(x -> x.disconnect(0)), x -> x.distance(0, 1));
        desk.due(NONE, Desk.LINE.then(x -> x.disconnect(6)), x -> x.distance(6, 7));
    }

    /** Puts another edge in the place of the last one. */
    private static void replace(NetworkCenters x, int a, int b, int length) {
        x.disconnect(1);
        x.connect(a, b, length);
    }

    private void weightsAndTrends() {
        desk.says(5, "Sets the weight of a node.");
        IntStream.range(0, 3).forEach(i -> afresh(PATH, x -> x.setWeight(i, 3)));
        afresh(FULL, x -> x.setWeight(7, 0));
        desk.says(6, "Sets the trend of a node.");
        IntStream.range(0, 3).forEach(i -> afresh(PATH, x -> x.setTrend(i, 3)));
        desk.due(16, PATH.then(x -> x.changedRadius(3, 0)).then(x -> Desk.script(x, "v0=1;v2=1;")),
                x -> x.changedRadius(1, 0));
    }

    private void stretches() {
        desk.says(7, "Adds a stretch.");
        afresh(PATH, x -> x.forbid(0, 7, 9));
        Desk.Setup closed = PATH.then(x -> x.forbid(0, 7, 9));
        int[][] others = {{1, 4, 5}, {0, 6, 9}, {0, 7, 10}, {0, 8, 9}};
        for (int[] other : others) {
            afresh(closed, x -> {
                x.allow(0);
                x.forbid(other[0], other[1], other[2]);
            });
        }
        afresh(PATH.then(x -> x.forbid(0, 1, 2)), x -> {
            x.allow(0);
            x.forbid(1, 1, 2);
        });
        desk.says(8, "Removes a stretch.");
        afresh(closed, x -> x.allow(0));
        IntStream.range(0, 6).forEach(i -> afresh(FULL.then(x -> x.setWeight(i, 1)), x -> x.allow(i)));
        afresh(closed.then(x -> x.forbid(0, 6, 7)), x -> x.allow(0));
    }

    private void scriptsAndUndo() {
        desk.says(34, "Carries out the script of the text, which stays.");
        afresh(PATH.then(Desk.text("2-0:3;w1=4;x2:1-2;")), x -> x.run());
        desk.says(35, "Restores the latest record and removes it.");
        afresh(PATH, x -> x.undo());
        afresh(PATH.then(x -> x.setWeight(0, 9)), x -> x.undo());
        afresh(FULL.then(PATH), x -> Desk.records(x));
    }

    private void allRecords() {
        desk.says(TERMS, "At most 6 records are kept; when one more is made, the oldest is dropped.");
        IntStream.rangeClosed(1, 9).forEach(changes -> {
            NetworkCenters x = new NetworkCenters();
            for (int i = 1; i <= changes; i++) {
                x.setTrend(0, i);
            }
            for (int undone = 1; undone <= Math.min(changes, 6); undone++) {
                desk.same(Math.min(changes, 6) - undone, x.undo());
                desk.same(changes - undone, x.node(0, 1));
            }
        });
        Desk.Setup six = PATH.then(SIX_RECORDS);
        desk.due(8, six.then(x -> x.setTrend(0, 1)).then(x -> x.setWeight(0, 1)).then(x -> x.undo())
                .then(x -> x.setWeight(0, 1)), x -> x.radius(7, 0));
        desk.due(3, six.then(x -> x.reset(1)).then(x -> x.undo()), x -> x.count(0));
        desk.due(7, six.then(x -> x.reset(1)).then(x -> x.undo()), x -> x.node(0, 0));
        desk.due(6, six.then(x -> x.reset(1)).then(x -> x.undo()).then(x -> x.undo()), x -> x.node(0, 0));
    }

    private void trendsElsewhere() {
        desk.says(29, "Returns the radius of all nodes with changed weights.");
        Desk.Setup trending = PATH.then(x -> Desk.script(x, "v0=9;v1=5;v2=1;"));
        Desk.Call[] calls = {x -> x.height(7, 0, 3, 2, 0), x -> x.cost(0, 3, 2, 0), x -> x.corner(0, 1, 0),
            x -> x.corner(0, 1, 2), x -> x.radius(7, 0), x -> x.radius(3, 1), x -> x.center(7, 0), x -> x.center(7, 1),
            x -> x.center(6, 1), x -> x.critical(7), x -> x.critical(6), x -> x.median(0), x -> x.median(1), x -> x.median(3),
            x -> x.radiusOf(2, 0), x -> x.group(2, 0), x -> x.group(3, 0), x -> x.covering(3, 1), x -> x.covered(0, 8, 8),
            x -> x.changedRadius(0, 0), x -> x.distanceTo(0, 0, 3, 2, 0), x -> x.distance(0, 2), x -> x.next(0, 2)};
        for (Desk.Call call : calls) {
            long due = call.on(Desk.made(PATH));
            desk.due(due, trending, call);
            desk.due(due, trending.then(x -> x.changedRadius(10, 0)), call);
        }
        Desk.Setup weighted = PATH.then(x -> Desk.script(x, "w0=2;v0=9;v1=5;v2=1;"));
        desk.fraction(32, 3, weighted, x -> x.radius(7, 0), x -> x.radius(7, 1));
        desk.fraction(16, 3, weighted, x -> x.center(7, 1), x -> x.center(7, 2));
        Desk.Setup ringed = Desk.RING.then(x -> Desk.script(x, "v0=9;v1=5;v2=1;"));
        desk.fraction(15, 1, ringed, x -> x.radiusWithout(0, 0), x -> x.radiusWithout(0, 1));
    }

    /** In a full network each edge has many points at which a height can be least, the last edge too. */
    private void manyPoints() {
        desk.says(TERMS, "The radius of S is the least height of all allowed points.");
        Desk.Setup open = FULL.then(x -> {
            for (int i = 0; i < 6; i++) {
                x.allow(0);
            }
        });
        desk.due(11, open, x -> x.center(136, 0));
        desk.due(25, open, x -> x.center(136, 1));
        desk.due(225, open, x -> x.radius(136, 0));
        Desk.Setup uneven = open.then(x -> Desk.script(x, "w0=1;w1=2;w2=3;w4=4;w5=5;w6=6;w7=7;"));
        desk.fraction(175, 8, uneven, x -> x.center(136, 1), x -> x.center(136, 2));
        // Here almost every pair of nodes has lines that cross on almost every edge.
        Desk.Setup crowded = x -> {
            x.reset(8);
            Desk.script(x, "0-1:42;1-2:43;0-3:46;3-4:42;3-5:44;1-6:50;1-7:41;0-6:45;2-6:44;1-5:40;0-5:50;1-4:49;");
            Desk.script(x, "w0=5;w1=5;w2=5;w3=2;w4=2;w5=5;w6=7;w7=2;");
        };
        desk.due(11, crowded, x -> x.center(18, 0));
        desk.due(14, crowded, x -> x.center(18, 1));
        desk.due(70, crowded, x -> x.radius(18, 0));
        // From node 2 the point lies behind the place at which the way by the other end becomes the shorter one.
        Desk.Setup behind = x -> {
            x.reset(3);
            Desk.script(x, "0-1:10;0-2:5;2-1:9;w1=9;");
        };
        desk.fraction(19, 2, behind, x -> x.radius(7, 0), x -> x.radius(7, 1));
        desk.fraction(19, 2, behind, x -> x.center(7, 1), x -> x.center(7, 2));
        desk.due(5, behind, x -> x.critical(7));
        desk.says(TERMS, "of several the one on the edge with the lowest number, of these the one with the least t");
        Desk.Setup shut = Desk.RING.then(x -> Desk.script(x, "x3:4-6;x2:4-6;x1:4-6;x0:4-6;"));
        desk.due(0, shut, x -> x.center(15, 0));
        desk.due(4, shut, x -> x.center(15, 1));
        desk.due(6, PATH.then(x -> x.forbid(0, 6, 10)), x -> x.center(7, 1));
        desk.due(0, PATH.then(x -> x.forbid(0, 6, 10)), x -> x.center(7, 0));
        desk.due(10, PATH.then(x -> x.forbid(0, 5, 10)), x -> x.center(7, 1));
        Desk.Setup nine = x -> {
            x.reset(2);
            Desk.script(x, "0-1:9;x0:5-6;x0:4-5;");
        };
        desk.fraction(4, 1, nine, x -> x.center(3, 1), x -> x.center(3, 2));
        desk.due(5, nine, x -> x.radius(3, 0));
    }
}
