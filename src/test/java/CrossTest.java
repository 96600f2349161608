import java.util.LinkedHashMap;
import java.util.Map;
import java.util.Set;

/**
 * Every combination of arguments just inside and just outside of their bounds, on networks from the least to the
 * fullest: the class must answer or refuse as the Model does, and a refused call must leave all as it was.
 */
public final class CrossTest {
    private static final Set<String> UNDOABLE =
            Set.of("reset", "connect", "disconnect", "setWeight", "setTrend", "forbid", "allow");

    /** What the arguments of each call are. */
    private static final Map<String, String> ARGUMENTS = new LinkedHashMap<>();

    static {
        String table = "reset n;connect node node length;disconnect edge;setWeight node value;setTrend node value;"
                + "forbid edge from to;allow stretch;count what3;edge edge what2;node node what2;stretch stretch what2;"
                + "distance node node;next node node;distanceTo node edge p q part;isAllowed edge p q;"
                + "height set edge p q part;cost edge p q part;corner edge i what3;radius set part;center set what2;"
                + "critical set;median what4;radiusOf k part;group k i;covering p q;covered edge t r;"
                + "changedRadius s part;radiusWithout edge part;type c";
        for (String row : table.split(";")) {
            ARGUMENTS.put(row.split(" ")[0], row.substring(row.indexOf(' ') + 1));
        }
    }

    private static int combinations;
    private final String setup;
    private Twin twin;

    public static void main(String[] args) {
        String full = "reset 8;run 0-1:50,1-2:50,2-3:50,3-4:50,4-5:50,5-6:50,6-7:50,7-0:50,0-4:50,1-5:50,2-6:50,3-7:50;"
                + "run w0=9,w1=9,w2=9,w3=9,w4=9,w5=9,w6=9,w7=9,v0=9,v1=9,v2=9,v3=9,v4=9,v5=9,v6=9,v7=9;"
                + "run x0:0-50,x0:0-50,x0:0-50,x11:0-1,x11:49-50,x11:0-50;";
        String[] setups = {
            "", "reset 1", "reset 2;connect 0 1 1", "connect 0 1 10", "reset 3;connect 0 1 10;connect 1 2 6;forbid 0 7 9",
            "reset 3;connect 0 1 10;connect 1 2 1;connect 2 0 1;setWeight 2 0;setTrend 1 3;forbid 2 0 1;type 119",
            "reset 8;run 0-1:50,1-2:50,2-3:50,3-4:50,4-5:50,5-6:50,6-7:50;run w0=2,w3=0,w7=9,v2=9,x3:0-50,x0:49-50",
            full + "setTrend 0 8;setTrend 0 9;fill 120",
        };
        for (String setup : setups) {
            new CrossTest(setup).go();
        }
        System.out.println("CrossTest: " + combinations + " combinations agree");
    }

    private CrossTest(String setup) {
        this.setup = setup;
    }

    private void go() {
        fresh();
        for (String name : new String[] {"diameter", "fault", "run", "undo", "clearText", "checksum"}) {
            attempt(name, new int[0]);
        }
        for (Map.Entry<String, String> e : ARGUMENTS.entrySet()) {
            combine(e.getKey(), e.getValue().split(" "), new int[e.getValue().split(" ").length], 0);
        }
    }

    private void fresh() {
        twin = new Twin();
        for (String step : setup.isEmpty() ? new String[0] : setup.split(";")) {
            String[] words = step.split(" ");
            if (words[0].equals("run")) {
                twin.type(words[1].replace(',', ';') + ";");
                twin.call("run");
                twin.call("clearText");
            } else if (words[0].equals("fill")) {
                twin.type("w0=8;".repeat(24));
            } else {
                int[] args = new int[words.length - 1];
                for (int i = 0; i < args.length; i++) {
                    args[i] = Integer.parseInt(words[i + 1]);
                }
                twin.call(words[0], args);
            }
        }
        twin.call("checksum");
    }

    private void combine(String name, String[] kinds, int[] args, int at) {
        if (at == args.length) {
            attempt(name, args.clone());
            return;
        }
        for (int value : values(kinds[at], args, kinds)) {
            args[at] = value;
            combine(name, kinds, args, at + 1);
        }
    }

    private void attempt(String name, int[] args) {
        combinations++;
        if (twin.calls > 500) {
            fresh();
        }
        boolean answered = twin.call(name, args);
        twin.call("checksum");
        boolean changes = args.length == 0 || name.equals("type") || UNDOABLE.contains(name);
        if (answered && changes) {
            for (int i = 0; i < 8; i++) {
                twin.call("undo");
                twin.call("checksum");
            }
            twin.call("clearText");
            fresh();
        }
    }

    private int[] values(String kind, int[] args, String[] kinds) {
        int nodes = twin.model.net.n();
        int edges = twin.model.net.edges.size();
        int stretches = twin.model.net.stretches.size();
        int all = (1 << nodes) - 1;
        int length = edges == 0 ? 1 : lengthOf(args, kinds);
        switch (kind) {
            case "n": return new int[] {0, 1, 4, 8, 9};
            case "node": return new int[] {-1, 0, nodes - 1, nodes};
            case "edge": return new int[] {-1, 0, edges - 1, edges};
            case "stretch": return new int[] {-1, 0, stretches - 1, stretches};
            case "length": return new int[] {0, 1, 50, 51};
            case "value": return new int[] {-1, 0, 9, 10};
            case "from": return new int[] {-1, 0, 1, length - 1, length};
            case "to": return new int[] {0, 1, 2, length - 1, length, length + 1};
            case "t": return new int[] {-1, 0, 1, length, length + 1};
            case "p": return new int[] {-1, 0, 1, length, length + 1, length * 1000, length * 1000 + 1, Integer.MAX_VALUE};
            case "q": return new int[] {0, 1, 1000, 1001};
            case "r": return new int[] {-1, 0, 1, 450, Integer.MAX_VALUE};
            case "set": return new int[] {-1, 0, 1, all, all + 1};
            case "part": return new int[] {-1, 0, 1, 2};
            case "k": return new int[] {0, 1, 2, 3, 4};
            case "i": return new int[] {-1, 0, 1, 2, 3, 8};
            case "s": return new int[] {-1, 0, 1, 10, 11};
            case "c": return new int[] {31, 32, 126, 127};
            default: return upTo(kind.charAt(4) - '0');
        }
    }

    /** The length of the edge among the arguments, of the last edge if that is none. */
    private int lengthOf(int[] args, String[] kinds) {
        int edges = twin.model.net.edges.size();
        int edge = edges - 1;
        for (int i = 0; i < kinds.length; i++) {
            boolean there = kinds[i].equals("edge") && args[i] >= 0 && args[i] < edges;
            edge = there ? args[i] : edge;
        }
        return twin.model.net.edges.get(edge)[2];
    }

    /** -1 to one above the last. */
    private static int[] upTo(int last) {
        int[] values = new int[last + 3];
        for (int i = 0; i < values.length; i++) {
            values[i] = i - 1;
        }
        return values;
    }
}
