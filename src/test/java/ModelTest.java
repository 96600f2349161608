/**
 * Runs the class and the Model side by side through made-up runs of calls: any numbers as arguments,
 * wrong ones too. Each call must have the same answer or the same exception in both.
 * Arguments: how many runs, and the seed (both have a value of their own if they are left out).
 */
public final class ModelTest {
    private static final String[] QUERIES = {
        "count", "edge", "node", "stretch", "distance", "next", "diameter", "distanceTo", "isAllowed", "height",
        "cost", "corner", "corner", "radius", "center", "critical", "median", "radiusOf", "group", "covering",
        "covered", "changedRadius", "radiusWithout", "checksum"};
    private static final int[] ODD = {-1, -2, 8, 9, 10, 12, 13, 50, 51, 255, 256, 1000, 1001,
        Integer.MAX_VALUE, Integer.MIN_VALUE, 1 << 30};

    private long seed;
    private final Twin twin = new Twin();
    private final Model model = twin.model;

    public static void main(String[] args) {
        int runs = args.length > 0 ? Integer.parseInt(args[0]) : 150;
        long seed = args.length > 1 ? Long.parseLong(args[1]) : 1;
        for (int run = 0; run < runs; run++) {
            new ModelTest(seed * 1000003 + run).go(run);
        }
        boolean all = Twin.allSeen(args.length > 0);
        System.out.println("ModelTest: " + runs + " runs agree");
        if (!all) {
            System.out.println("ModelTest: some calls never answered");
            System.exit(1);
        }
    }

    private ModelTest(long seed) {
        this.seed = seed;
    }

    private int pick(int bound) {
        seed = seed * 6364136223846793005L + 1442695040888963407L;
        return (int) ((seed >>> 33) % bound);
    }

    private void go(int run) {
        if (run % 4 != 0) {
            grow();
        }
        while (twin.calls < 500) {
            int kind = pick(20);
            if (kind < 3) {
                change();
            } else if (kind == 3) {
                writeScript();
            } else if (kind == 4) {
                none(pick(3) == 0 ? "undo" : "fault");
            } else {
                query();
            }
        }
        none("checksum");
    }

    /** Makes a connected network, so that most queries have an answer. */
    private void grow() {
        int n = 1 + pick(8);
        call("reset", n);
        int longest = pick(3) == 0 ? 4 : 50;
        for (int i = 1; i < n; i++) {
            int other = pick(i);
            boolean turned = pick(2) == 0;
            call("connect", turned ? i : other, turned ? other : i, 1 + pick(longest));
        }
        for (int i = pick(8); i > 0; i--) {
            call("connect", pick(n), pick(n), 1 + pick(longest));
        }
        int heaviest = pick(4) == 0 ? 2 : 10;
        for (int i = 0; i < n && pick(8) > 0; i++) {
            call("setWeight", i, pick(heaviest));
            call("setTrend", i, pick(10));
        }
        for (int i = pick(6); i > 0 && !model.net.edges.isEmpty(); i--) {
            forbid();
        }
    }

    private void forbid() {
        int edge = pick(model.net.edges.size());
        int length = model.net.edges.get(edge)[2];
        int a = pick(length);
        call("forbid", edge, a, a + 1 + pick(length - a));
    }

    private void change() {
        switch (pick(12)) {
            case 0:
                if (pick(4) == 0) {
                    call("reset", number(8));
                    grow();
                }
                break;
            case 1: case 2: case 3: call("connect", number(8), number(8), 1 + number(50)); break;
            case 4: call("disconnect", number(12)); break;
            case 5: case 6: call("setWeight", number(8), number(10)); break;
            case 7: call("setTrend", number(8), number(10)); break;
            case 8: call("forbid", number(12), number(20), number(50)); break;
            case 9: call("allow", number(6)); break;
            default:
                if (!model.net.edges.isEmpty()) {
                    forbid();
                }
        }
    }

    /** Mostly below a bound, now and then a number that is wrong or far off. */
    private int number(int bound) {
        return pick(25) == 0 ? ODD[pick(ODD.length)] : pick(bound);
    }

    private void query() {
        String name = QUERIES[pick(QUERIES.length)];
        int edges = Math.max(1, model.net.edges.size());
        int edge = number(edges);
        int node = number(model.net.n());
        int set = number(1 << model.net.n());
        int q = 1 + number(pick(2) == 0 ? 4 : 1000);
        int length = edge >= 0 && edge < model.net.edges.size() ? model.net.edges.get(edge)[2] : 9;
        int p = number(Math.max(1, length * Math.min(1000, Math.max(1, q)) + 1));
        int part = number(2);
        switch (name) {
            case "count": call(name, number(4)); break;
            case "edge": call(name, edge, number(3)); break;
            case "node": call(name, node, number(3)); break;
            case "stretch": call(name, number(6), number(3)); break;
            case "distance": case "next": call(name, node, number(model.net.n())); break;
            case "diameter": case "checksum": none(name); break;
            case "distanceTo": call(name, node, edge, p, q, part); break;
            case "isAllowed": call(name, edge, p, q); break;
            case "height": call(name, set, edge, p, q, part); break;
            case "cost": call(name, edge, p, q, part); break;
            case "corner": call(name, edge, number(9), number(4)); break;
            case "radius": call(name, set, part); break;
            case "center": call(name, set, number(3)); break;
            case "critical": call(name, set); break;
            case "median": call(name, number(5)); break;
            case "radiusOf": call(name, 1 + number(3), part); break;
            case "group": call(name, 1 + number(3), number(3)); break;
            case "covering": call(name, number(pick(2) == 0 ? 200 : 20), 1 + number(6)); break;
            case "covered": call(name, edge, number(length + 1), number(200)); break;
            case "changedRadius": call(name, number(11), part); break;
            default: call(name, edge, part);
        }
    }

    private void writeScript() {
        if (pick(3) > 0) {
            none("clearText");
        }
        int commands = pick(5);
        for (int i = 0; i < commands && twin.calls < 440; i++) {
            String s = command();
            for (int k = 0; k < s.length(); k++) {
                boolean slip = pick(120) == 0;
                call("type", slip ? "0189wvx-:=; y~/".charAt(pick(15)) : s.charAt(k));
                if (pick(10) == 0) {
                    call("type", ' ');
                }
            }
        }
        if (pick(6) == 0) {
            call("type", number(127));
        }
        none("fault");
        none("run");
    }

    private String command() {
        switch (pick(4)) {
            case 0: return digits(8) + "-" + digits(8) + ":" + digits(52) + ";";
            case 1: return "w" + digits(8) + "=" + digits(11) + ";";
            case 2: return "v" + digits(8) + "=" + digits(10) + ";";
            default: return "x" + digits(8) + ":" + digits(9) + "-" + digits(20) + ";";
        }
    }

    private String digits(int bound) {
        int x = pick(20) == 0 ? pick(130) : pick(bound);
        return pick(10) == 0 && x < 10 ? "0" + x : "" + x;
    }

    private void none(String name) {
        call(name);
    }

    private void call(String name, int... args) {
        twin.call(name, args);
    }
}
