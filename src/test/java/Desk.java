import java.io.IOException;
import java.nio.file.Files;
import java.nio.file.Path;
import java.util.ArrayList;
import java.util.List;
import java.util.Map;
import java.util.TreeMap;

/**
 * What the boundary tests share: the sentence of the document that is being tested, answers that are due,
 * refused calls. Each check works on an object of its own.
 */
final class Desk {
    interface Setup {
        void on(NetworkCenters x);

        default Setup then(Setup next) {
            return x -> {
                on(x);
                next.on(x);
            };
        }
    }

    interface Call {
        long on(NetworkCenters x);
    }

    static final Class<?> INDEX = IndexOutOfBoundsException.class;
    static final Class<?> ARGUMENT = IllegalArgumentException.class;
    static final Class<?> STATE = IllegalStateException.class;
    static final int LEAST = Integer.MIN_VALUE;
    static final int MOST = Integer.MAX_VALUE;
    static final int NONE = -1;
    /** The number of the section in which the document explains its words. */
    static final int TERMS = 0;

    static final Setup NEW = x -> { };
    static final Setup LONE = x -> x.reset(1);
    /** 0 --1-- 1, the least network with centers. */
    static final Setup PAIR = x -> {
        x.reset(2);
        x.connect(0, 1, 1);
    };
    /** 0 --10-- 1 --6-- 2. */
    static final Setup PATH = x -> {
        x.reset(3);
        x.connect(0, 1, 10);
        x.connect(1, 2, 6);
    };
    /** 0 --10-- 1, and the nodes 2 and 3 alone. */
    static final Setup APART = x -> x.connect(0, 1, 10);
    /** A ring of four edges of length 10. */
    static final Setup RING = x -> {
        x.connect(0, 1, 10);
        x.connect(1, 2, 10);
        x.connect(2, 3, 10);
        x.connect(3, 0, 10);
    };
    /** Edge 0 is longer than the way around it: 0 --10-- 1, 1 --1-- 2, 2 --1-- 0. */
    static final Setup DETOUR = x -> {
        x.reset(3);
        x.connect(0, 1, 10);
        x.connect(1, 2, 1);
        x.connect(2, 0, 1);
    };
    /** The longest way there can be: 0 to 7 in a line, each edge 50 long. */
    static final Setup LINE = x -> {
        x.reset(8);
        script(x, "0-1:50;1-2:50;2-3:50;3-4:50;4-5:50;5-6:50;6-7:50;");
    };
    /** 8 nodes; 12 edges 50 long: a ring and its 4 diagonals; 6 stretches; all weights and trends 9; 4 records. */
    static final Setup FULL = x -> {
        x.reset(8);
        script(x, "0-1:50;1-2:50;2-3:50;3-4:50;4-5:50;5-6:50;6-7:50;7-0:50;0-4:50;1-5:50;2-6:50;3-7:50;");
        script(x, "w0=9;w1=9;w2=9;w3=9;w4=9;w5=9;w6=9;w7=9;v0=9;v1=9;v2=9;v3=9;v4=9;v5=9;v6=9;v7=9;");
        script(x, "x0:0-50;x0:0-50;x0:0-50;x11:0-1;x11:49-50;x11:0-50;");
    };
    /** 6 records: the weights 1 to 6 of node 0. */
    static final Setup SIX_RECORDS = x -> {
        for (int weight = 2; weight <= 7; weight++) {
            x.setWeight(0, weight);
        }
    };
    /** A script of 120 characters. */
    static final Setup FULL_TEXT = x -> write(x, "w0=8;".repeat(24));

    private final Map<Integer, List<String>> document = new TreeMap<>();
    private final Map<Integer, List<String>> quoted = new TreeMap<>();
    private int section;
    private String words = "";
    private int checks;
    private int wrong;

    // ---- the document

    /** Reads the sentences of the terms and of the promises. */
    void read(Path file) throws IOException {
        int at = -1;
        for (String line : Files.readAllLines(file)) {
            if (line.startsWith("## ")) {
                at = line.startsWith("## Promise ") ? Integer.parseInt(line.replaceAll("\\D+", " ").trim().split(" ")[0])
                        : line.equals("## Terms") ? TERMS : -1;
            } else if (at >= 0) {
                addSentences(at, line.replaceAll("\\s+", " ").trim());
            }
        }
    }

    private void addSentences(int at, String line) {
        boolean heading = line.matches("[A-Z]*|```.*|Ahead of the calls .*");
        if (!heading) {
            document.computeIfAbsent(at, k -> new ArrayList<>()).addAll(List.of(line.split("(?<=[.]\\)?) (?=[(A-Z])")));
        }
    }

    /** The checks that follow are about these words of a section. */
    void says(int ofSection, String newWords) {
        section = ofSection;
        words = newWords;
        quoted.computeIfAbsent(section, k -> new ArrayList<>()).add(words);
        boolean stands = document.isEmpty() || document.getOrDefault(section, List.of()).stream().anyMatch(this::touches);
        check(stands, "these words do not stand there");
    }

    private boolean touches(String sentence) {
        return touch(sentence, words);
    }

    private static boolean touch(String sentence, String quote) {
        return sentence.contains(quote) || quote.contains(sentence);
    }

    /** Looks whether each sentence has a test; tells how many checks were wrong. */
    int finish() {
        for (Map.Entry<Integer, List<String>> e : document.entrySet()) {
            for (String sentence : e.getValue()) {
                section = e.getKey();
                words = sentence;
                boolean tested = quoted.getOrDefault(section, List.of()).stream().anyMatch(q -> touch(sentence, q));
                check(tested, "this sentence has no test");
            }
        }
        System.out.println("BoundsTest: " + checks + " checks, " + wrong + " wrong");
        return wrong;
    }

    // ---- checks

    void check(boolean good, String complaint) {
        checks++;
        if (!good) {
            wrong++;
            String place = StackWalker.getInstance().walk(frames -> frames
                    .filter(f -> !f.getClassName().startsWith("Desk")).findFirst())
                    .map(f -> f.getFileName() + ":" + f.getLineNumber()).orElse("");
            String where = section == TERMS ? "terms" : "promise " + section;
            System.out.println(place + ": " + where + ", \"" + words + "\": " + complaint);
        }
    }

    void same(long want, long got) {
        check(want == got, "is " + got + ", due is " + want);
    }

    static NetworkCenters made(Setup setup) {
        NetworkCenters x = new NetworkCenters();
        setup.on(x);
        return x;
    }

    /** The simple name of the exception, or the answer. */
    static String outcome(NetworkCenters x, Call call) {
        try {
            return Long.toString(call.on(x));
        } catch (RuntimeException e) {
            return e.getClass().getSimpleName();
        }
    }

    void due(long want, Setup setup, Call call) {
        String got = outcome(made(setup), call);
        check(got.equals(Long.toString(want)), "answered " + got + ", due is " + want);
    }

    /** Both parts of a fraction, from a call that is asked for part 0 and for part 1. */
    void fraction(long top, long bottom, Setup setup, Call numerator, Call denominator) {
        due(top, setup, numerator);
        due(bottom, setup, denominator);
    }

    /** Each of the calls throws just this exception and changes nothing. */
    void refused(Class<?> want, Setup setup, Call... calls) {
        for (Call call : calls) {
            NetworkCenters x = made(setup);
            String got = outcome(x, call);
            check(got.equals(want.getSimpleName()), "answered " + got + ", due is " + want.getSimpleName());
            check(picture(x).equals(picture(made(setup))), "a refused call changed something");
        }
    }

    /** Each of the calls answers and changes nothing. */
    void quiet(Setup setup, Call... calls) {
        for (Call call : calls) {
            NetworkCenters x = made(setup);
            String got = outcome(x, call);
            check(!got.endsWith("Exception"), "answered " + got + ", due is a number");
            check(picture(x).equals(picture(made(setup))), "a call that only looks changed something");
        }
    }

    /** Each of the calls makes one record, with which undo() restores all that the call changed. */
    void undoable(Setup setup, Call... calls) {
        for (Call call : calls) {
            NetworkCenters x = made(setup);
            String got = outcome(x, call);
            check(!got.endsWith("Exception"), "answered " + got + ", due is a number");
            same(records(made(setup)), x.undo());
            check(picture(x).equals(picture(made(setup))), "undo() did not restore all");
        }
    }

    /** The two objects cannot be told apart; both are used up by this. */
    void alike(NetworkCenters x, NetworkCenters y) {
        check(picture(x).equals(picture(y)), "the objects differ");
    }

    /** All that can be told of an object, which is used up by this. */
    private static List<String> picture(NetworkCenters x) {
        List<String> seen = new ArrayList<>();
        seen.add(outcome(x, y -> y.checksum()));
        seen.add(outcome(x, y -> y.fault()));
        for (int record = 0; record < 7; record++) {
            seen.add(outcome(x, y -> y.undo()));
            seen.add(outcome(x, y -> y.checksum()));
        }
        seen.add(outcome(x, y -> y.run()));
        seen.add(outcome(x, y -> y.checksum()));
        for (char c : "0;".toCharArray()) {
            seen.add(outcome(x, y -> y.type(c)));
            seen.add(outcome(x, y -> y.fault()));
        }
        seen.add(outcome(x, y -> y.clearText()));
        return seen;
    }

    /** How many records an object has, which it loses by this. */
    static int records(NetworkCenters x) {
        int count = 0;
        while (count < 99 && !outcome(x, y -> y.undo()).endsWith("Exception")) {
            count++;
        }
        return count;
    }

    static void write(NetworkCenters x, String text) {
        x.clearText();
        for (int i = 0; i < text.length(); i++) {
            x.type(text.charAt(i));
        }
    }

    /** Writes and runs a script; leaves an empty text. */
    static void script(NetworkCenters x, String text) {
        write(x, text);
        x.run();
        x.clearText();
    }

    static Setup text(String text) {
        return x -> write(x, text);
    }

    static Setup weights(int... values) {
        return x -> {
            for (int i = 0; i < values.length; i++) {
                x.setWeight(i, values[i]);
            }
        };
    }

    static long truth(boolean b) {
        return b ? 1 : 0;
    }
}
