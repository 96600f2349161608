/** Each promise of the document with ordinary inputs, the edges that it names, and wrong inputs. */
public final class PromiseTest {
    private static final Class<?> INDEX = IndexOutOfBoundsException.class;
    private static final Class<?> ARGUMENT = IllegalArgumentException.class;
    private static final Class<?> STATE = IllegalStateException.class;
    private static final int LEAST = Integer.MIN_VALUE;
    private static final int MOST = Integer.MAX_VALUE;

    private static String promise = "";
    private static int checks;
    private static int wrong;
    private static NetworkCenters x;

    private interface Call {
        long answer();
    }

    public static void main(String[] args) {
        promise1NewObject();
        promise2Reset();
        promise3Connect();
        promise4Disconnect();
        promise5SetWeight();
        promise6SetTrend();
        promise7Forbid();
        promise8Allow();
        promise9Count();
        promises10To12Facts();
        promise13Distance();
        promise14Next();
        promise15Diameter();
        promise16DistanceTo();
        promise17IsAllowed();
        promise18Height();
        promise19Cost();
        promise20Corner();
        promise21Radius();
        promise22Center();
        promise23Critical();
        promise24Median();
        promise25RadiusOf();
        promise26Group();
        promise27Covering();
        promise28Covered();
        promise29ChangedRadius();
        promise30RadiusWithout();
        promise31Type();
        promise32ClearText();
        promise33Fault();
        promise34Run();
        promise35Undo();
        promise36Checksum();
        System.out.println("PromiseTest: " + checks + " checks, " + wrong + " wrong");
        if (wrong > 0) {
            System.exit(1);
        }
    }

    // ---- helpers

    private static void begin(String name) {
        promise = name;
        x = new NetworkCenters();
    }

    private static void same(String what, long want, long got) {
        checks++;
        if (want != got) {
            wrong++;
            System.out.println(promise + ": " + what + " is " + got + ", due is " + want);
        }
    }

    /** The call throws just this exception, and nothing is changed by it. */
    private static void fails(String what, Class<?> want, Call call) {
        long before = x.checksum();
        Class<?> got = null;
        try {
            call.answer();
        } catch (RuntimeException e) {
            got = e.getClass();
        }
        checks++;
        if (got != want) {
            wrong++;
            System.out.println(promise + ": " + what + " throws " + got + ", due is " + want);
        }
        same("the checksum after " + what, before, x.checksum());
    }

    /** 0 --10-- 1 --6-- 2. */
    private static void path() {
        x = new NetworkCenters();
        x.reset(3);
        x.connect(0, 1, 10);
        x.connect(1, 2, 6);
    }

    /** Edge 0 is longer than the way around it: 0 --10-- 1, 1 --1-- 2, 2 --1-- 0. */
    private static void longWay() {
        x = new NetworkCenters();
        x.reset(3);
        x.connect(0, 1, 10);
        x.connect(1, 2, 1);
        x.connect(2, 0, 1);
    }

    private static void loneNode() {
        x = new NetworkCenters();
        x.reset(1);
    }

    private static void weights(int... values) {
        for (int i = 0; i < values.length; i++) {
            x.setWeight(i, values[i]);
        }
    }

    private static void trends(int... values) {
        for (int i = 0; i < values.length; i++) {
            x.setTrend(i, values[i]);
        }
    }

    private static void write(String text) {
        x.clearText();
        for (int i = 0; i < text.length(); i++) {
            x.type(text.charAt(i));
        }
    }

    private static int recordsLeft() {
        int left = 0;
        try {
            while (left < 99) {
                x.undo();
                left++;
            }
        } catch (IllegalStateException e) {
            return left;
        }
        return left;
    }

    // ---- the network

    private static void promise1NewObject() {
        begin("1 new object");
        same("NONE", -1, NetworkCenters.NONE);
        same("nodes", 4, x.count(0));
        same("edges", 0, x.count(1));
        same("stretches", 0, x.count(2));
        same("connected", 0, x.count(3));
        for (int i = 0; i < 4; i++) {
            same("weight", 1, x.node(i, 0));
            same("trend", 0, x.node(i, 1));
            same("edges of a node", 0, x.node(i, 2));
        }
        same("text", 0, x.clearText());
        same("fault", -1, x.fault());
        fails("undo()", STATE, () -> x.undo());
        NetworkCenters other = new NetworkCenters();
        x.connect(0, 1, 3);
        same("edges of another object", 0, other.count(1));
    }

    private static void promise2Reset() {
        begin("2 reset");
        x.connect(0, 1, 5);
        x.forbid(0, 1, 2);
        weights(9, 8, 7, 6);
        x.setTrend(2, 3);
        x.type('a');
        same("reset(8)", 4, x.reset(8));
        same("nodes", 8, x.count(0));
        same("edges", 0, x.count(1));
        same("stretches", 0, x.count(2));
        for (int i = 0; i < 8; i++) {
            same("weight", 1, x.node(i, 0));
            same("trend", 0, x.node(i, 1));
        }
        same("reset(1)", 8, x.reset(1));
        for (int n : new int[] {0, 9, -1, LEAST, MOST}) {
            fails("reset(" + n + ")", ARGUMENT, () -> x.reset(n));
        }
        same("text", 1, x.clearText());
        same("undo", 5, x.undo());
        same("nodes again", 8, x.count(0));
        same("undo", 4, x.undo());
        same("nodes at first", 4, x.count(0));
        same("weight at first", 9, x.node(0, 0));
        same("trend at first", 3, x.node(2, 1));
        same("stretches at first", 1, x.count(2));
    }

    private static void promise3Connect() {
        begin("3 connect");
        same("connect", 0, x.connect(2, 0, 1));
        same("connect", 1, x.connect(0, 1, 50));
        same("first", 2, x.edge(0, 0));
        same("second", 0, x.edge(0, 1));
        same("length", 1, x.edge(0, 2));
        same("length", 50, x.edge(1, 2));
        fails("no such a", INDEX, () -> x.connect(4, 1, 0));
        fails("no such b", INDEX, () -> x.connect(1, -1, 0));
        fails("both none", INDEX, () -> x.connect(9, 9, 5));
        fails("far off", INDEX, () -> x.connect(LEAST, MOST, 5));
        fails("the same", ARGUMENT, () -> x.connect(1, 1, 5));
        fails("length 0", ARGUMENT, () -> x.connect(2, 0, 0));
        fails("length 51", ARGUMENT, () -> x.connect(0, 3, 51));
        fails("length least", ARGUMENT, () -> x.connect(0, 3, LEAST));
        fails("length most", ARGUMENT, () -> x.connect(0, 3, MOST));
        fails("there is one", STATE, () -> x.connect(2, 0, 7));
        fails("there is one, turned", STATE, () -> x.connect(0, 2, 7));
        same("undo", 1, x.undo());
        same("edges", 1, x.count(1));
        x.reset(8);
        int edges = 0;
        for (int a = 0; a < 8 && edges < 12; a++) {
            for (int b = a + 1; b < 8 && edges < 12; b++) {
                same("connect", edges, x.connect(a, b, 3));
                edges++;
            }
        }
        fails("12 edges", STATE, () -> x.connect(6, 7, 3));
        fails("12 edges, length 0", ARGUMENT, () -> x.connect(6, 7, 0));
        fails("12 edges, no node", INDEX, () -> x.connect(6, 8, 3));
        x.disconnect(3);
        same("connect again", 11, x.connect(6, 7, 3));
    }

    private static void promise4Disconnect() {
        begin("4 disconnect");
        x.connect(0, 1, 10);
        x.connect(1, 2, 20);
        x.connect(2, 3, 30);
        x.forbid(2, 1, 2);
        x.forbid(1, 3, 4);
        x.forbid(0, 5, 6);
        x.forbid(1, 7, 8);
        x.forbid(2, 9, 10);
        fails("no such edge", INDEX, () -> x.disconnect(3));
        fails("edge -1", INDEX, () -> x.disconnect(-1));
        same("disconnect(1)", 2, x.disconnect(1));
        same("edges", 2, x.count(1));
        same("length 0", 10, x.edge(0, 2));
        same("length 1", 30, x.edge(1, 2));
        same("first 1", 2, x.edge(1, 0));
        same("stretches", 3, x.count(2));
        int[][] left = {{1, 1, 2}, {0, 5, 6}, {1, 9, 10}};
        for (int i = 0; i < 3; i++) {
            for (int what = 0; what < 3; what++) {
                same("stretch " + i + " " + what, left[i][what], x.stretch(i, what));
            }
        }
        same("undo", 5, x.undo());
        same("edges", 3, x.count(1));
        same("stretches", 5, x.count(2));
        same("a stretch", 2, x.stretch(4, 0));
        same("disconnect(0)", 1, x.disconnect(0));
        same("disconnect(1)", 2, x.disconnect(1));
        same("disconnect(0)", 2, x.disconnect(0));
        fails("no edges", INDEX, () -> x.disconnect(0));
        x.connect(0, 1, 9);
        same("disconnect without stretches", 0, x.disconnect(0));
    }

    private static void promise5SetWeight() {
        begin("5 setWeight");
        same("setWeight", 1, x.setWeight(0, 9));
        same("setWeight", 9, x.setWeight(0, 0));
        same("setWeight", 0, x.setWeight(0, 0));
        same("other weight", 1, x.node(1, 0));
        same("trend", 0, x.node(0, 1));
        same("setWeight(3)", 1, x.setWeight(3, 5));
        fails("no such node", INDEX, () -> x.setWeight(4, 10));
        fails("node -1", INDEX, () -> x.setWeight(-1, 1));
        fails("value 10", ARGUMENT, () -> x.setWeight(0, 10));
        fails("value -1", ARGUMENT, () -> x.setWeight(0, -1));
        same("undo", 3, x.undo());
        same("weight 3", 1, x.node(3, 0));
        same("undo of a change to the same", 2, x.undo());
        same("undo", 1, x.undo());
        same("weight 0", 9, x.node(0, 0));
    }

    private static void promise6SetTrend() {
        begin("6 setTrend");
        same("setTrend", 0, x.setTrend(1, 9));
        same("setTrend", 9, x.setTrend(1, 2));
        same("trend", 2, x.node(1, 1));
        same("weight", 1, x.node(1, 0));
        same("other trend", 0, x.node(0, 1));
        fails("no such node", INDEX, () -> x.setTrend(4, -1));
        fails("node -1", INDEX, () -> x.setTrend(-1, 1));
        fails("value 10", ARGUMENT, () -> x.setTrend(3, 10));
        fails("value -1", ARGUMENT, () -> x.setTrend(3, -1));
        same("undo", 1, x.undo());
        same("trend", 9, x.node(1, 1));
    }

    private static void promise7Forbid() {
        begin("7 forbid");
        x.connect(0, 1, 10);
        x.connect(1, 2, 4);
        fails("no such edge", INDEX, () -> x.forbid(2, 5, 5));
        fails("edge -1", INDEX, () -> x.forbid(-1, 0, 1));
        same("forbid", 0, x.forbid(0, 0, 10));
        same("forbid", 1, x.forbid(1, 3, 4));
        same("forbid the same", 2, x.forbid(1, 3, 4));
        fails("a is b", ARGUMENT, () -> x.forbid(0, 3, 3));
        fails("a above b", ARGUMENT, () -> x.forbid(0, 4, 3));
        fails("a -1", ARGUMENT, () -> x.forbid(0, -1, 3));
        fails("b too great", ARGUMENT, () -> x.forbid(1, 0, 5));
        fails("far off", ARGUMENT, () -> x.forbid(0, LEAST, MOST));
        same("forbid", 3, x.forbid(0, 1, 2));
        same("forbid", 4, x.forbid(0, 1, 3));
        same("forbid", 5, x.forbid(0, 1, 4));
        fails("6 stretches", STATE, () -> x.forbid(0, 1, 5));
        fails("6 stretches, a is b", ARGUMENT, () -> x.forbid(0, 1, 1));
        fails("6 stretches, no edge", INDEX, () -> x.forbid(2, 1, 2));
        same("undo", 5, x.undo());
        same("stretches", 5, x.count(2));
        same("stretch edge", 1, x.stretch(1, 0));
        same("stretch a", 3, x.stretch(1, 1));
        same("stretch b", 4, x.stretch(1, 2));
    }

    private static void promise8Allow() {
        begin("8 allow");
        x.connect(0, 1, 10);
        x.connect(1, 2, 10);
        x.forbid(1, 1, 2);
        x.forbid(0, 3, 4);
        x.forbid(1, 5, 6);
        fails("no such stretch", INDEX, () -> x.allow(3));
        fails("stretch -1", INDEX, () -> x.allow(-1));
        same("allow(1)", 0, x.allow(1));
        same("stretches", 2, x.count(2));
        same("stretch 1", 5, x.stretch(1, 1));
        same("allow(1)", 1, x.allow(1));
        same("allow(0)", 1, x.allow(0));
        fails("none left", INDEX, () -> x.allow(0));
        same("undo", 5, x.undo());
        same("stretch 0", 1, x.stretch(0, 1));
    }

    private static void promise9Count() {
        begin("9 count");
        fails("what -1", ARGUMENT, () -> x.count(-1));
        fails("what 4", ARGUMENT, () -> x.count(4));
        fails("what least", ARGUMENT, () -> x.count(LEAST));
        x.connect(0, 1, 1);
        x.connect(2, 3, 1);
        same("connected", 0, x.count(3));
        x.connect(3, 1, 1);
        same("connected", 1, x.count(3));
        x.forbid(0, 0, 1);
        same("connected through a stretch", 1, x.count(3));
        same("nodes", 4, x.count(0));
        same("edges", 3, x.count(1));
        same("stretches", 1, x.count(2));
        loneNode();
        same("a lone node is connected", 1, x.count(3));
    }

    private static void promises10To12Facts() {
        begin("10 edge");
        x.connect(3, 1, 17);
        same("first", 3, x.edge(0, 0));
        same("second", 1, x.edge(0, 1));
        same("length", 17, x.edge(0, 2));
        fails("no such edge", INDEX, () -> x.edge(1, 3));
        fails("edge -1", INDEX, () -> x.edge(-1, 0));
        fails("what 3", ARGUMENT, () -> x.edge(0, 3));
        fails("what -1", ARGUMENT, () -> x.edge(0, -1));
        promise = "11 node";
        x.connect(3, 2, 5);
        x.setWeight(3, 4);
        x.setTrend(3, 6);
        same("weight", 4, x.node(3, 0));
        same("trend", 6, x.node(3, 1));
        same("edges", 2, x.node(3, 2));
        same("edges", 1, x.node(1, 2));
        same("edges", 0, x.node(0, 2));
        fails("no such node", INDEX, () -> x.node(4, 3));
        fails("node -1", INDEX, () -> x.node(-1, 0));
        fails("what 3", ARGUMENT, () -> x.node(0, 3));
        fails("what -1", ARGUMENT, () -> x.node(0, -1));
        promise = "12 stretch";
        x.forbid(1, 2, 5);
        same("edge", 1, x.stretch(0, 0));
        same("a", 2, x.stretch(0, 1));
        same("b", 5, x.stretch(0, 2));
        fails("no such stretch", INDEX, () -> x.stretch(1, 3));
        fails("stretch -1", INDEX, () -> x.stretch(-1, 0));
        fails("what 3", ARGUMENT, () -> x.stretch(0, 3));
        fails("what -1", ARGUMENT, () -> x.stretch(0, -1));
    }

    // ---- distances

    private static void promise13Distance() {
        begin("13 distance");
        path();
        same("0 2", 16, x.distance(0, 2));
        same("2 0", 16, x.distance(2, 0));
        same("1 1", 0, x.distance(1, 1));
        longWay();
        same("around the long edge", 2, x.distance(0, 1));
        x.forbid(1, 0, 1);
        same("through a stretch", 2, x.distance(0, 1));
        fails("no such a", INDEX, () -> x.distance(3, 0));
        fails("no such b", INDEX, () -> x.distance(0, -1));
        x.disconnect(2);
        x.disconnect(0);
        same("no path", -1, x.distance(0, 1));
        same("to itself", 0, x.distance(0, 0));
    }

    private static void promise14Next() {
        begin("14 next");
        path();
        same("0 2", 1, x.next(0, 2));
        same("0 1", 1, x.next(0, 1));
        same("the same", -1, x.next(1, 1));
        longWay();
        same("not along the long edge", 2, x.next(0, 1));
        fails("no such a", INDEX, () -> x.next(3, 0));
        fails("no such b", INDEX, () -> x.next(0, MOST));
        begin("14 next");
        x.connect(0, 3, 2);
        x.connect(3, 1, 2);
        same("no path", -1, x.next(0, 2));
        same("by 3", 3, x.next(0, 1));
        x.connect(0, 2, 1);
        x.connect(2, 1, 3);
        same("the lowest of two", 2, x.next(0, 1));
        x.connect(0, 1, 4);
        same("straight on is lower", 1, x.next(0, 1));
    }

    private static void promise15Diameter() {
        begin("15 diameter");
        same("not connected", -1, x.diameter());
        path();
        same("path", 16, x.diameter());
        longWay();
        same("around", 2, x.diameter());
        loneNode();
        same("a lone node", 0, x.diameter());
    }

    private static void promise16DistanceTo() {
        begin("16 distanceTo");
        path();
        same("top", 27, x.distanceTo(2, 0, 5, 2, 0));
        same("bottom", 2, x.distanceTo(2, 0, 5, 2, 1));
        same("lowest terms", 27, x.distanceTo(2, 0, 2500, 1000, 0));
        same("lowest terms", 2, x.distanceTo(2, 0, 2500, 1000, 1));
        same("0", 0, x.distanceTo(0, 0, 0, 7, 0));
        same("0 / 1", 1, x.distanceTo(0, 0, 0, 7, 1));
        longWay();
        same("by the second node", 3, x.distanceTo(0, 0, 9, 1, 0));
        same("farthest point", 6, x.distanceTo(0, 0, 6, 1, 0));
        fails("no such node", INDEX, () -> x.distanceTo(3, 0, 1, 0, 0));
        fails("no such edge", INDEX, () -> x.distanceTo(0, 3, 1, 1, 0));
        fails("node and edge -1", INDEX, () -> x.distanceTo(-1, -1, 1, 1, 0));
        fails("q 0", ARGUMENT, () -> x.distanceTo(0, 0, 0, 0, 0));
        fails("q 1001", ARGUMENT, () -> x.distanceTo(0, 0, 1, 1001, 0));
        fails("q -1", ARGUMENT, () -> x.distanceTo(0, 0, -1, -1, 0));
        fails("p -1", ARGUMENT, () -> x.distanceTo(0, 0, -1, 1, 0));
        fails("t too great", ARGUMENT, () -> x.distanceTo(0, 0, 10001, 1000, 0));
        fails("p most", ARGUMENT, () -> x.distanceTo(0, 0, MOST, 1000, 0));
        fails("part 2", ARGUMENT, () -> x.distanceTo(0, 0, 1, 1, 2));
        fails("part -1", ARGUMENT, () -> x.distanceTo(0, 0, 1, 1, -1));
        begin("16 distanceTo");
        x.connect(0, 1, 8);
        same("a path is enough", 3, x.distanceTo(1, 0, 5, 1, 0));
        fails("no path", STATE, () -> x.distanceTo(2, 0, 5, 1, 0));
        fails("no path, part 2", ARGUMENT, () -> x.distanceTo(2, 0, 5, 1, 2));
    }

    private static void promise17IsAllowed() {
        begin("17 isAllowed");
        x.connect(0, 1, 10);
        x.connect(1, 2, 10);
        x.forbid(0, 2, 5);
        x.forbid(0, 5, 7);
        x.forbid(1, 0, 10);
        int[][] points = {{0, 1, 1}, {2, 1, 1}, {2001, 1000, 0}, {4, 1, 0}, {4999, 1000, 0}, {5, 1, 1},
            {5001, 1000, 0}, {7, 1, 1}, {15, 2, 1}, {10, 1, 1}};
        for (int[] p : points) {
            same("t = " + p[0] + " / " + p[1], p[2], x.isAllowed(0, p[0], p[1]) ? 1 : 0);
        }
        same("node at 0", 1, x.isAllowed(1, 0, 3) ? 1 : 0);
        same("node at the end", 1, x.isAllowed(1, 30, 3) ? 1 : 0);
        same("between", 0, x.isAllowed(1, 1, 1000) ? 1 : 0);
        fails("no such edge", INDEX, () -> x.isAllowed(2, 1, 0) ? 1 : 0);
        fails("edge -1", INDEX, () -> x.isAllowed(-1, 1, 1) ? 1 : 0);
        fails("q 0", ARGUMENT, () -> x.isAllowed(0, 0, 0) ? 1 : 0);
        fails("q 1001", ARGUMENT, () -> x.isAllowed(0, 0, 1001) ? 1 : 0);
        fails("p -1", ARGUMENT, () -> x.isAllowed(0, -1, 1) ? 1 : 0);
        fails("t too great", ARGUMENT, () -> x.isAllowed(0, 21, 2) ? 1 : 0);
    }

    private static void promise18Height() {
        begin("18 height");
        path();
        same("all", 27, x.height(7, 0, 5, 2, 0));
        same("all", 2, x.height(7, 0, 5, 2, 1));
        same("some", 15, x.height(3, 0, 5, 2, 0));
        same("none", 0, x.height(0, 0, 5, 2, 0));
        same("none", 1, x.height(0, 0, 5, 2, 1));
        weights(9, 0, 1);
        same("weighted", 45, x.height(7, 0, 5, 1, 0));
        same("without weight", 0, x.height(2, 0, 5, 1, 0));
        fails("no such edge", INDEX, () -> x.height(8, 2, 1, 1, 0));
        fails("edge -1", INDEX, () -> x.height(1, -1, 1, 1, 0));
        fails("set 8", ARGUMENT, () -> x.height(8, 0, 1, 1, 0));
        fails("set -1", ARGUMENT, () -> x.height(-1, 0, 1, 1, 0));
        fails("set least", ARGUMENT, () -> x.height(LEAST, 0, 1, 1, 0));
        fails("q 0", ARGUMENT, () -> x.height(7, 0, 0, 0, 0));
        fails("q 1001", ARGUMENT, () -> x.height(7, 0, 0, 1001, 0));
        fails("p -1", ARGUMENT, () -> x.height(7, 0, -1, 1, 0));
        fails("t too great", ARGUMENT, () -> x.height(7, 0, 11, 1, 0));
        fails("part 2", ARGUMENT, () -> x.height(7, 0, 1, 1, 2));
        x.disconnect(1);
        fails("not connected", STATE, () -> x.height(0, 0, 1, 1, 0));
        fails("not connected, part -1", ARGUMENT, () -> x.height(0, 0, 1, 1, -1));
    }

    private static void promise19Cost() {
        begin("19 cost");
        path();
        same("top", 47, x.cost(0, 5, 2, 0));
        same("bottom", 2, x.cost(0, 5, 2, 1));
        weights(2, 3, 4);
        same("weighted", 2 * 4 + 3 * 6 + 4 * 12, x.cost(0, 4, 1, 0));
        fails("no such edge", INDEX, () -> x.cost(2, 1, 0, 0));
        fails("edge -1", INDEX, () -> x.cost(-1, 1, 1, 0));
        fails("q 0", ARGUMENT, () -> x.cost(0, 0, 0, 0));
        fails("q 1001", ARGUMENT, () -> x.cost(0, 0, 1001, 0));
        fails("p -1", ARGUMENT, () -> x.cost(0, -1, 1, 0));
        fails("t too great", ARGUMENT, () -> x.cost(0, 11, 1, 0));
        fails("part 2", ARGUMENT, () -> x.cost(0, 1, 1, 2));
        x.disconnect(1);
        fails("not connected", STATE, () -> x.cost(0, 1, 1, 0));
        fails("not connected, part 2", ARGUMENT, () -> x.cost(0, 1, 1, 2));
    }

    private static void corners(int edge, int[][] due) {
        for (int i = 0; i < due.length; i++) {
            for (int what = 0; what < 4; what++) {
                same("corner " + i + " " + what, due[i][what], x.corner(edge, i, what));
            }
        }
        for (int what = 0; what < 4; what++) {
            same("no corner", -1, x.corner(edge, due.length, what));
            same("corner -1", -1, x.corner(edge, -1, what));
        }
    }

    private static void promise20Corner() {
        begin("20 corner");
        path();
        corners(0, new int[][] {{0, 1, 16, 1}, {8, 1, 8, 1}, {10, 1, 10, 1}});
        corners(1, new int[][] {{0, 1, 10, 1}, {6, 1, 16, 1}});
        x.forbid(0, 7, 9);
        corners(0, new int[][] {{0, 1, 16, 1}, {8, 1, 8, 1}, {10, 1, 10, 1}});
        same("corner most", -1, x.corner(0, MOST, 0));
        same("corner least", -1, x.corner(0, LEAST, 0));
        weights(1, 0, 2);
        corners(1, new int[][] {{0, 1, 12, 1}, {2, 3, 32, 3}, {6, 1, 16, 1}});
        weights(0, 0, 0);
        corners(0, new int[][] {{0, 1, 0, 1}, {10, 1, 0, 1}});
        longWay();
        x.forbid(0, 0, 10);
        corners(0, new int[][] {{0, 1, 2, 1}, {4, 1, 6, 1}, {9, 2, 11, 2}, {5, 1, 6, 1}, {11, 2, 11, 2}, {6, 1, 6, 1},
            {10, 1, 2, 1}});
        fails("no such edge", INDEX, () -> x.corner(3, 0, 4));
        fails("edge -1", INDEX, () -> x.corner(-1, 0, 0));
        fails("what 4", ARGUMENT, () -> x.corner(0, 0, 4));
        fails("what -1", ARGUMENT, () -> x.corner(0, 99, -1));
        x.disconnect(1);
        x.disconnect(1);
        fails("not connected", STATE, () -> x.corner(0, 99, 0));
        fails("not connected, what 4", ARGUMENT, () -> x.corner(0, 0, 4));
    }

    // ---- centers

    private static void noCenters(Call good, Call badArgument) {
        x = new NetworkCenters();
        fails("not connected", STATE, good);
        x.connect(0, 1, 3);
        fails("not connected", STATE, good);
        fails("not connected, wrong argument", ARGUMENT, badArgument);
        loneNode();
        fails("no edges", STATE, good);
        fails("no edges, wrong argument", ARGUMENT, badArgument);
    }

    private static void promise21Radius() {
        begin("21 radius");
        path();
        same("all", 8, x.radius(7, 0));
        same("all", 1, x.radius(7, 1));
        same("none", 0, x.radius(0, 0));
        same("none", 1, x.radius(0, 1));
        same("one", 0, x.radius(4, 0));
        weights(1, 1, 2);
        same("weighted", 32, x.radius(7, 0));
        same("weighted", 3, x.radius(7, 1));
        weights(1, 1, 1);
        x.forbid(0, 7, 9);
        same("with a stretch", 9, x.radius(7, 0));
        x.forbid(1, 0, 6);
        same("with a stretch elsewhere", 9, x.radius(7, 0));
        x.forbid(0, 0, 10);
        same("on nodes alone", 10, x.radius(7, 0));
        same("two nodes", 6, x.radius(6, 0));
        fails("set 8", ARGUMENT, () -> x.radius(8, 0));
        fails("set -1", ARGUMENT, () -> x.radius(-1, 0));
        fails("part 2", ARGUMENT, () -> x.radius(1, 2));
        fails("part -1", ARGUMENT, () -> x.radius(1, -1));
        noCenters(() -> x.radius(1, 0), () -> x.radius(256, 0));
    }

    private static void center(int set, int edge, int top, int bottom) {
        same("edge for " + set, edge, x.center(set, 0));
        same("top for " + set, top, x.center(set, 1));
        same("bottom for " + set, bottom, x.center(set, 2));
    }

    private static void promise22Center() {
        begin("22 center");
        path();
        center(7, 0, 8, 1);
        center(3, 0, 5, 1);
        center(6, 1, 3, 1);
        center(0, 0, 0, 1);
        center(2, 0, 10, 1);
        center(4, 1, 6, 1);
        x.forbid(0, 7, 9);
        center(7, 0, 7, 1);
        x.forbid(0, 0, 1);
        center(0, 0, 0, 1);
        x.setWeight(2, 2);
        center(7, 1, 2, 3);
        weights(0, 0, 0);
        center(7, 0, 0, 1);
        begin("22 center");
        x.connect(2, 3, 10);
        x.connect(1, 2, 10);
        x.connect(3, 0, 10);
        x.connect(0, 1, 10);
        center(15, 0, 5, 1);
        center(5, 0, 10, 1);
        center(10, 0, 0, 1);
        fails("set 16", ARGUMENT, () -> x.center(16, 0));
        fails("what 3", ARGUMENT, () -> x.center(1, 3));
        fails("what -1", ARGUMENT, () -> x.center(1, -1));
        noCenters(() -> x.center(1, 0), () -> x.center(1, 3));
    }

    private static void promise23Critical() {
        begin("23 critical");
        path();
        same("all", 5, x.critical(7));
        same("two", 3, x.critical(3));
        same("one", 4, x.critical(4));
        same("none", 0, x.critical(0));
        x.forbid(0, 7, 9);
        same("with a stretch", 4, x.critical(7));
        weights(0, 1, 0);
        same("some without weight", 7, x.critical(7));
        same("set without weight", 5, x.critical(5));
        fails("set 8", ARGUMENT, () -> x.critical(8));
        fails("set least", ARGUMENT, () -> x.critical(LEAST));
        noCenters(() -> x.critical(1), () -> x.critical(-1));
    }

    private static void median(int... due) {
        for (int what = 0; what < 5; what++) {
            same("median " + what, due[what], x.median(what));
        }
    }

    private static void promise24Median() {
        begin("24 median");
        path();
        median(0, 10, 1, 16, 1);
        x.forbid(0, 0, 10);
        median(0, 10, 1, 16, 1);
        weights(1, 1, 9);
        median(1, 6, 1, 22, 1);
        weights(1, 0, 1);
        median(0, 0, 1, 16, 1);
        weights(0, 0, 0);
        median(0, 0, 1, 0, 1);
        fails("what 5", ARGUMENT, () -> x.median(5));
        fails("what -1", ARGUMENT, () -> x.median(-1));
        noCenters(() -> x.median(0), () -> x.median(5));
    }

    private static void promise25RadiusOf() {
        begin("25 radiusOf");
        path();
        same("1", 8, x.radiusOf(1, 0));
        same("2", 3, x.radiusOf(2, 0));
        same("2", 1, x.radiusOf(2, 1));
        same("3", 0, x.radiusOf(3, 0));
        same("3", 1, x.radiusOf(3, 1));
        x.setWeight(2, 2);
        same("weighted", 4, x.radiusOf(2, 0));
        x.forbid(1, 0, 6);
        same("with a stretch", 5, x.radiusOf(2, 0));
        x.setWeight(1, 3);
        same("with a stretch", 15, x.radiusOf(2, 0));
        same("with a stretch", 2, x.radiusOf(2, 1));
        fails("k 0", ARGUMENT, () -> x.radiusOf(0, 0));
        fails("k 4", ARGUMENT, () -> x.radiusOf(4, 0));
        fails("part 2", ARGUMENT, () -> x.radiusOf(1, 2));
        fails("part -1", ARGUMENT, () -> x.radiusOf(1, -1));
        noCenters(() -> x.radiusOf(1, 0), () -> x.radiusOf(0, 0));
    }

    private static void groups(int... due) {
        for (int i = 0; i < due.length; i++) {
            same("group " + i + " of " + due.length, due[i], x.group(due.length, i));
        }
    }

    private static void promise26Group() {
        begin("26 group");
        path();
        groups(7);
        groups(6, 1);
        groups(4, 2, 1);
        weights(0, 0, 0);
        groups(7, 0);
        groups(7, 0, 0);
        begin("26 group");
        x.reset(2);
        x.connect(0, 1, 5);
        groups(2, 1, 0);
        x.reset(5);
        for (int i = 1; i < 5; i++) {
            x.connect(0, i, 2 * i);
        }
        groups(31);
        groups(19, 12);
        groups(16, 9, 6);
        fails("k 0", ARGUMENT, () -> x.group(0, 0));
        fails("k 4", ARGUMENT, () -> x.group(4, 0));
        fails("i is k", ARGUMENT, () -> x.group(2, 2));
        fails("i -1", ARGUMENT, () -> x.group(2, -1));
        noCenters(() -> x.group(3, 2), () -> x.group(1, 1));
    }

    private static void promise27Covering() {
        begin("27 covering");
        path();
        int[][] due = {{0, 1, 3}, {0, 1000, 3}, {2999, 1000, 3}, {3, 1, 2}, {7999, 1000, 2}, {8, 1, 1}, {MOST, 1, 1},
            {MOST, 1000, 1}};
        for (int[] d : due) {
            same("covering(" + d[0] + ", " + d[1] + ")", d[2], x.covering(d[0], d[1]));
        }
        x.forbid(1, 0, 6);
        same("with a stretch", 3, x.covering(3, 1));
        weights(0, 0, 0);
        same("without weights", 1, x.covering(0, 1));
        fails("p -1", ARGUMENT, () -> x.covering(-1, 1));
        fails("q 0", ARGUMENT, () -> x.covering(1, 0));
        fails("q 1001", ARGUMENT, () -> x.covering(1, 1001));
        fails("q -1", ARGUMENT, () -> x.covering(1, -1));
        x.reset(8);
        for (int i = 1; i < 8; i++) {
            x.connect(i - 1, i, 2);
        }
        same("all alone", 8, x.covering(0, 1));
        same("pairs", 4, x.covering(1, 1));
        same("pairs", 4, x.covering(3, 2));
        same("threes", 3, x.covering(2, 1));
        noCenters(() -> x.covering(1, 1), () -> x.covering(1, 0));
    }

    private static void promise28Covered() {
        begin("28 covered");
        path();
        same("8", 7, x.covered(0, 8, 8));
        same("7", 2, x.covered(0, 8, 7));
        same("0", 1, x.covered(0, 0, 0));
        same("most", 7, x.covered(1, 6, MOST));
        x.setWeight(0, 2);
        same("weighted", 6, x.covered(0, 8, 15));
        x.setWeight(2, 0);
        same("without weight", 4, x.covered(0, 1, 0));
        x.forbid(0, 0, 10);
        same("on a forbidden point", 4, x.covered(0, 1, 0));
        fails("no such edge", INDEX, () -> x.covered(2, 0, -1));
        fails("edge -1", INDEX, () -> x.covered(-1, 0, 0));
        fails("t -1", ARGUMENT, () -> x.covered(0, -1, 0));
        fails("t too great", ARGUMENT, () -> x.covered(0, 11, 0));
        fails("r -1", ARGUMENT, () -> x.covered(0, 0, -1));
        x.disconnect(1);
        fails("not connected", STATE, () -> x.covered(0, 0, 0));
        fails("not connected, r -1", ARGUMENT, () -> x.covered(0, 0, -1));
    }

    private static void promise29ChangedRadius() {
        begin("29 changedRadius");
        path();
        trends(0, 0, 1);
        int[][] due = {{0, 8, 1}, {1, 32, 3}, {10, 44, 3}};
        for (int[] d : due) {
            same("changedRadius(" + d[0] + ", 0)", d[1], x.changedRadius(d[0], 0));
            same("changedRadius(" + d[0] + ", 1)", d[2], x.changedRadius(d[0], 1));
        }
        same("the radius stays", 8, x.radius(7, 0));
        same("the 2-radius stays", 3, x.radiusOf(2, 0));
        x.forbid(1, 4, 5);
        same("with a stretch", 15, x.changedRadius(10, 0));
        weights(0, 0, 0);
        same("trends alone", 0, x.changedRadius(10, 0));
        fails("s -1", ARGUMENT, () -> x.changedRadius(-1, 0));
        fails("s 11", ARGUMENT, () -> x.changedRadius(11, 0));
        fails("part 2", ARGUMENT, () -> x.changedRadius(0, 2));
        fails("part -1", ARGUMENT, () -> x.changedRadius(0, -1));
        noCenters(() -> x.changedRadius(0, 0), () -> x.changedRadius(11, 0));
    }

    private static void promise30RadiusWithout() {
        begin("30 radiusWithout");
        path();
        same("apart", -1, x.radiusWithout(0, 0));
        same("apart", -1, x.radiusWithout(1, 1));
        x.connect(2, 0, 20);
        same("with all", 9, x.radiusWithout(2, 0) + x.radiusWithout(2, 1));
        same("without 0", 13, x.radiusWithout(0, 0));
        x.forbid(0, 1, 2);
        x.forbid(2, 6, 8);
        same("stretches of the others stay", 14, x.radiusWithout(0, 0));
        same("its stretches go", 8, x.radiusWithout(2, 0));
        same("edges", 3, x.count(1));
        same("stretches", 2, x.count(2));
        x.setWeight(2, 2);
        same("bottom", 3, x.radiusWithout(2, 1));
        fails("no such edge", INDEX, () -> x.radiusWithout(3, 2));
        fails("edge -1", INDEX, () -> x.radiusWithout(-1, 0));
        fails("part 2", ARGUMENT, () -> x.radiusWithout(0, 2));
        fails("part -1", ARGUMENT, () -> x.radiusWithout(0, -1));
        begin("30 radiusWithout");
        x.connect(0, 1, 4);
        same("not connected before", -1, x.radiusWithout(0, 0));
        fails("not connected, part 2", ARGUMENT, () -> x.radiusWithout(0, 2));
        fails("no such edge", INDEX, () -> x.radiusWithout(1, 0));
    }

    // ---- scripts, undo

    private static void promise31Type() {
        begin("31 type");
        same("32", 1, x.type(32));
        same("126", 2, x.type(126));
        for (int c : new int[] {31, 127, -1, 0, 256 + 48, LEAST, MOST}) {
            fails("type(" + c + ")", ARGUMENT, () -> x.type(c));
        }
        fails("not undoable", STATE, () -> x.undo());
        for (int i = 3; i <= 120; i++) {
            same("type", i, x.type('0'));
        }
        fails("120 characters", STATE, () -> x.type('0'));
        fails("120 characters, wrong code", ARGUMENT, () -> x.type(31));
        same("length", 120, x.clearText());
        same("type", 1, x.type('0'));
    }

    private static void promise32ClearText() {
        begin("32 clearText");
        same("empty", 0, x.clearText());
        write("w0=1;");
        same("5", 5, x.clearText());
        same("empty again", 0, x.clearText());
        same("no fault", -1, x.fault());
        x.type('w');
        same("old text is gone", 1, x.fault());
        fails("not undoable", STATE, () -> x.undo());
    }

    private static void promise33Fault() {
        begin("33 fault");
        String[] scripts = {"", " ", "0-1:5;", "00-99:01;", "w0=1;", "v0=1;", "x0:1-2;", "w0=1;v0=1; x0:1-2 ;0-1:50;",
            "  12  -  34  :  56  ;  ", " w 7 = 77 ; ", "x99:99-99;", "w0=1;w0=1;"};
        for (String s : scripts) {
            write(s);
            same("fault of " + s, -1, x.fault());
            for (int end = 1; end < s.length() && !s.trim().isEmpty() && s.indexOf(';') == s.lastIndexOf(';'); end++) {
                String begun = s.substring(0, end);
                boolean whole = begun.trim().isEmpty() || begun.indexOf(';') >= 0;
                write(begun);
                same("fault of " + begun, whole ? -1 : end, x.fault());
            }
        }
        Object[][] faults = {{";", 0}, {"-", 0}, {"W0=1;", 0}, {"y0=1;", 0}, {"  =", 2}, {"0=1;", 1}, {"0:1-2;", 1},
            {"w-1=1;", 1}, {"w;", 1}, {"w0:1;", 2}, {"w0-1;", 2}, {"w100=1;", 3}, {"w1 0=1;", 3}, {"w0=;", 3},
            {"w0=123;", 5}, {"w0=12 3;", 6}, {"w0=1", 4}, {"w0=1w", 4}, {"v0=1:", 4}, {"v0 1", 3}, {"x0-1:2;", 2},
            {"x0:1:2;", 4}, {"x0:1=2;", 4}, {"x0:1-2-", 6}, {"0-1-5;", 3}, {"0-1:;", 4}, {"0-1:555;", 6}, {"000", 2},
            {"0-1:5;;", 6}, {"0-1:5; ww", 8}, {"w0=1;  ~", 7}, {"w0=1;w", 6}, {"ww0=1;", 1}, {"0-", 2}, {"0-  ", 4},
            {"x", 1}, {"v", 1}, {"w  ", 3}, {"1", 1}, {"12", 2}, {"1 2", 2}, {"w0==1;", 3}, {"/", 0}, {":", 0}};
        for (Object[] f : faults) {
            write((String) f[0]);
            same("fault of " + f[0], (Integer) f[1], x.fault());
        }
        write("w0=1;".repeat(24));
        same("fault of 120 characters", -1, x.fault());
        write("w0=1;".repeat(23) + "w0=11");
        same("fault at the end of 120 characters", 120, x.fault());
    }

    private static void promise34Run() {
        begin("34 run");
        write("0-1:10; 1 - 2 : 06 ;w0=9;v2=3;x0:2-5;");
        same("run", 5, x.run());
        same("edges", 2, x.count(1));
        same("length", 6, x.edge(1, 2));
        same("weight", 9, x.node(0, 0));
        same("trend", 3, x.node(2, 1));
        same("stretch a", 2, x.stretch(0, 1));
        same("stretch b", 5, x.stretch(0, 2));
        same("the text stays", 38, x.type(' '));
        same("run again", 3, x.run());
        same("stretches", 2, x.count(2));
        same("one record", 1, x.undo());
        same("one record", 0, x.undo());
        same("edges", 0, x.count(1));
        same("weight", 1, x.node(0, 0));
        write("0-0:1;0-1:0;0-1:51;0-9:5;w4=1;w0=10;v9=9;v0=99;x0:0-1;");
        same("all are skipped", 0, x.run());
        same("a record too", 0, x.undo());
        write("0-1:5;x0:3-6;1-0:5;x0:5-5;x0:3-5;w0=0;");
        same("some are skipped", 3, x.run());
        same("stretches", 1, x.count(2));
        write(" ");
        same("no commands", 0, x.run());
        same("a record too", 1, x.undo());
        x.clearText();
        same("no text", 0, x.run());
        same("a record too", 1, x.undo());
        write("w1=5;w2=");
        fails("a fault", ARGUMENT, () -> x.run());
        same("nothing was done", 1, x.node(1, 0));
        write("x0:0-1;".repeat(7));
        same("no more than 6 stretches", 5, x.run());
        same("stretches", 6, x.count(2));
        write("w3=7;".repeat(24));
        same("24 commands", 24, x.run());
        same("records", 3, recordsLeft());
    }

    private static void promise35Undo() {
        begin("35 undo");
        fails("none", STATE, () -> x.undo());
        for (int i = 1; i <= 9; i++) {
            x.setWeight(0, i);
        }
        for (int left = 5; left >= 0; left--) {
            same("undo", left, x.undo());
            same("weight", left + 3, x.node(0, 0));
        }
        fails("none left", STATE, () -> x.undo());
        x.setWeight(1, 4);
        x.undo();
        x.setTrend(1, 4);
        same("undo after undo", 0, x.undo());
        same("weight", 1, x.node(1, 0));
        path();
        same("radius", 8, x.radius(7, 0));
        x.connect(0, 2, 1);
        same("radius", 7, x.radius(7, 0));
        same("radius", 2, x.radius(7, 1));
        x.undo();
        same("radius again", 8, x.radius(7, 0));
        same("2-radius again", 3, x.radiusOf(2, 0));
        x.type('a');
        x.undo();
        same("the text is no part of it", 1, x.clearText());
    }

    private static long fold(long... values) {
        long h = 18473;
        for (long v : values) {
            h = 31 * h + v;
        }
        return h;
    }

    private static void promise36Checksum() {
        begin("36 checksum");
        same("at first", fold(4, 0, 0, 0, 1, 0, 0, 1, 0, 0, 1, 0, 0, 1, 0, 0, 0, 0), x.checksum());
        loneNode();
        same("a lone node", fold(1, 0, 0, 1, 1, 0, 0, 0, 1), x.checksum());
        x.reset(3);
        x.connect(0, 1, 10);
        x.forbid(0, 7, 9);
        x.setTrend(2, 5);
        x.type('w');
        same("not connected", fold(3, 1, 1, 0, 1, 0, 1, 1, 0, 1, 1, 5, 0, 0, 1, 10, 0, 7, 9, 1, 5), x.checksum());
        x.connect(1, 2, 6);
        long due = fold(3, 2, 1, 1, 1, 0, 1, 1, 0, 2, 1, 5, 1, 0, 1, 10, 1, 2, 6, 0, 7, 9,
            9, 1, 0, 7, 1, 4, 0, 10, 1, 16, 1, 3, 1, 8, 1, 8, 1, 6, 1, 16, 1, 1, 6);
        same("connected", due, x.checksum());
        same("once more", due, x.checksum());
        same("nothing is changed by it", 5, x.undo());
    }
}
