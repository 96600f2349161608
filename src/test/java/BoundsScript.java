import java.math.BigInteger;
import java.util.stream.IntStream;

/** The boundaries that the document names for scripts, undo, exceptions and the checksum: promises 31 to 36. */
final class BoundsScript {
    private static final Desk.Setup NEW = Desk.NEW;
    private static final Desk.Setup LONE = Desk.LONE;
    private static final Desk.Setup PAIR = Desk.PAIR;
    private static final Desk.Setup PATH = Desk.PATH;
    private static final Desk.Setup APART = Desk.APART;
    private static final Desk.Setup FULL = Desk.FULL;
    private static final Desk.Setup SIX_RECORDS = Desk.SIX_RECORDS;
    private static final Desk.Setup FULL_TEXT = Desk.FULL_TEXT;
    private static final Class<?> INDEX = Desk.INDEX;
    private static final Class<?> ARGUMENT = Desk.ARGUMENT;
    private static final Class<?> STATE = Desk.STATE;
    private static final int LEAST = Desk.LEAST;
    private static final int MOST = Desk.MOST;
    private static final int NONE = Desk.NONE;
    private static final int TERMS = Desk.TERMS;
    private static final String DIGITS = "0123456789";
    private static final String BEGINNINGS = "wvx" + DIGITS;

    private final Desk desk;

    BoundsScript(Desk desk) {
        this.desk = desk;
    }

    void run() {
        textBuffer();
        commands();
        numbers();
        spaces();
        faults();
        records();
        exceptions();
        type();
        clearText();
        fault();
        runScripts();
        skippedCommands();
        runRefusals();
        undo();
        checksum();
    }

    private void fault(int want, String text) {
        desk.due(want, Desk.text(text), x -> x.fault());
    }

    /** Behind this text just these characters, and spaces, are allowed. */
    private void follow(String text, String allowed) {
        int end = text.length();
        for (char c = 32; c <= 126; c++) {
            boolean good = c == ' ' || allowed.indexOf(c) >= 0;
            NetworkCenters x = Desk.made(Desk.text(text));
            x.type(c);
            int fault = x.fault();
            desk.check(good ? fault == NONE || fault == end + 1 : fault == end,
                    "behind \"" + text + "\" the character " + c + " has the fault " + fault);
        }
    }

    // ---- the terms

    private void textBuffer() {
        desk.says(TERMS, "The text buffer holds at most 120 characters with codes from 32 to 126.");
        desk.due(120, Desk.text(" ".repeat(119)), x -> x.type(32));
        desk.refused(STATE, Desk.text(" ".repeat(120)), x -> x.type(32), x -> x.type(126));
        desk.due(1, NEW, x -> x.type(32));
        desk.due(1, NEW, x -> x.type(126));
        desk.refused(ARGUMENT, NEW, x -> x.type(31), x -> x.type(127));
    }

    private void commands() {
        desk.says(TERMS, "A script consists of commands, perhaps none, each of which ends with \";\":");
        fault(NONE, "");
        fault(NONE, " ".repeat(120));
        fault(NONE, "w0=1;");
        fault(NONE, "w0=8;".repeat(24));
        fault(4, "w0=1w");
        fault(4, "w0=1");
        fault(0, ";");
        fault(5, "w0=1;;");
        follow("", BEGINNINGS);
        follow(" ", BEGINNINGS);
        desk.says(TERMS, "a \"-\" b \":\" length connect()");
        String[][] edges = {{"1-", ""}, {"1-2", ":"}, {"1-23", ":"}, {"1-2:", ""}, {"1-2:3", ";"}, {"1-2:34", ";"},
            {"1-2:3 ", ";"}, {"1-2 ", ":"}, {"1 ", "-"}, {"1", "-"}, {"12", "-"}};
        followAll(edges);
        follow("1-2:3;", BEGINNINGS);
        desk.due(3, x -> Desk.script(x, "3-2:50;"), x -> x.edge(0, 0));
        desk.due(2, x -> Desk.script(x, "3-2:50;"), x -> x.edge(0, 1));
        desk.due(50, x -> Desk.script(x, "3-2:50;"), x -> x.edge(0, 2));
        desk.says(TERMS, "\"w\" node \"=\" weight setWeight()");
        valueCommand("w");
        desk.due(9, x -> Desk.script(x, "w3=9;"), x -> x.node(3, 0));
        desk.due(0, x -> Desk.script(x, "w3=9;"), x -> x.node(3, 1));
        desk.says(TERMS, "\"v\" node \"=\" trend setTrend()");
        valueCommand("v");
        desk.due(9, x -> Desk.script(x, "v3=9;"), x -> x.node(3, 1));
        desk.due(1, x -> Desk.script(x, "v3=9;"), x -> x.node(3, 0));
        desk.says(TERMS, "\"x\" edge \":\" a \"-\" b forbid()");
        String[][] stretches = {{"x", ""}, {"x ", ""}, {"x1", ":"}, {"x12", ":"}, {"x1:", ""}, {"x1:2", "-"}, {"x1:23", "-"},
            {"x1:2-", ""}, {"x1:2-3", ";"}, {"x1:2-34", ";"}, {"x1:2-3 ", ";"}, {"x1 ", ":"}, {"x1:2 ", "-"}};
        followAll(stretches);
        follow("x1:2-3;", BEGINNINGS);
        Desk.Setup closed = PATH.then(x -> Desk.script(x, "x1:2-5;"));
        int[] stretch = {1, 2, 5};
        IntStream.range(0, 3).forEach(what -> desk.due(stretch[what], closed, x -> x.stretch(0, what)));
    }

    private void valueCommand(String letter) {
        followAll(new String[][] {{letter, ""}, {letter + " ", ""}, {letter + "1", "="}, {letter + "12", "="},
            {letter + "1 ", "="}, {letter + "1=", ""}, {letter + "1= ", ""}, {letter + "1=2", ";"}, {letter + "1=23", ";"},
            {letter + "1=2 ", ";"}});
        follow(letter + "1=2;", BEGINNINGS);
    }

    /** A sign that follows, or none if a number must begin; a number of one digit can go on. */
    private void followAll(String[][] cases) {
        for (String[] c : cases) {
            boolean mayGoOn = c[0].matches("(.*\\D)?\\d");
            follow(c[0], c[1] + (c[1].isEmpty() || mayGoOn ? DIGITS : ""));
        }
    }

    private void numbers() {
        desk.says(TERMS, "All numbers are sequences of 1 or 2 digits, as long as possible (a third digit is not allowed).");
        fault(NONE, "0-0:0;");
        fault(NONE, "00-99:09;");
        fault(2, "000-1:5;");
        fault(4, "0-123:5;");
        fault(6, "0-1:123;");
        fault(3, "w100=1;");
        fault(5, "w1=100;");
        fault(3, "v100=1;");
        fault(5, "v1=100;");
        fault(3, "x100:1-2;");
        fault(5, "x1:100-2;");
        fault(7, "x1:1-200;");
        fault(1, "w=1;");
        fault(3, "w1=;");
        desk.due(1, x -> Desk.script(x, "0-1:01;"), x -> x.edge(0, 2));
        desk.due(12, x -> Desk.script(x, "0-1:12;"), x -> x.edge(0, 2));
        desk.due(8, x -> Desk.script(x, "w03=08;"), x -> x.node(3, 0));
    }

    private void spaces() {
        desk.says(TERMS, "Spaces may stand before, between and after letters, numbers and signs, but not within a number.");
        fault(NONE, "  0  -  1  :  5  ;  w  0  =  1  ;  v  0  =  1  ;  x  0  :  1  -  2  ;  ");
        desk.due(4, Desk.text("  0  -  1  :  5  ;  w  0  =  1  ;  v  0  =  1  ;  x  0  :  1  -  2  ;  "), x -> x.run());
        desk.due(12, x -> Desk.script(x, " 0 - 1 : 12 ; "), x -> x.edge(0, 2));
        fault(3, "w1 2=1;");
        fault(5, "w1=1 2;");
        fault(2, "0 0-1:5;");
        fault(4, "0-1 1:5;");
        fault(6, "0-1:1 1;");
        fault(3, "x0 0:1-2;");
        fault(5, "x0:1 1-2;");
        fault(7, "x0:1-1 1;");
    }

    private void faults() {
        desk.says(TERMS, "The fault of the text is the index of the first character that is not allowed at its place; it is the"
                + " length of the text if the text ends too early.");
        fault(0, "y");
        fault(3, "   y   ");
        fault(6, "w0=1; W");
        fault(0, "~~");
        fault(1, "w");
        fault(2, "w ");
        fault(5, "w0=1 ");
        fault(119, "w0=8;".repeat(23) + "w0=8w");
        fault(120, "w0=8;".repeat(23) + "w0=88");
        fault(120, "w0=8;".repeat(23) + "w0   ");
        fault(NONE, "w0=8;".repeat(23) + "     ");
        fault(0, "y" + "w0=8;".repeat(23));
    }

    private void records() {
        desk.says(TERMS, "Every method that is marked \"undoable\" records the network, as it was before the call, when it ends"
                + " normally.");
        Desk.Setup room = PATH.then(x -> x.forbid(0, 1, 2));
        desk.undoable(room, x -> x.reset(3), x -> x.connect(0, 2, 1), x -> x.disconnect(0), x -> x.setWeight(0, 9),
                x -> x.setTrend(0, 9), x -> x.forbid(0, 0, 1), x -> x.allow(0), x -> x.run());
        desk.undoable(room.then(FULL_TEXT), x -> x.reset(3), x -> x.run());
        desk.refused(ARGUMENT, room, x -> x.reset(0));
        desk.refused(STATE, room, x -> x.connect(0, 1, 1));
        desk.quiet(room, x -> x.count(3), x -> x.checksum(), x -> x.fault());
        desk.due(0, NEW.then(FULL_TEXT).then(x -> x.clearText()), x -> Desk.records(x));
        desk.says(TERMS, "At most 6 records are kept; when one more is made, the oldest is dropped.");
        IntStream.rangeClosed(0, 9).forEach(changes -> {
            Desk.Setup changed = x -> {
                for (int i = 1; i <= changes; i++) {
                    x.setTrend(0, i);
                }
            };
            int kept = Math.min(changes, 6);
            desk.due(kept, changed, x -> Desk.records(x));
            desk.due(changes - kept, changed.then(x -> Desk.records(x)), x -> x.node(0, 1));
        });
        oldestIsDropped(FULL);
        desk.says(TERMS, "undo() restores the latest one and removes it.");
        IntStream.rangeClosed(1, 6).forEach(times -> {
            Desk.Setup undone = SIX_RECORDS.then(x -> {
                for (int i = 0; i < times; i++) {
                    x.undo();
                }
            });
            desk.due(times == 6 ? 1 : 7 - times, undone, x -> x.node(0, 0));
            desk.due(6 - times, undone, x -> Desk.records(x));
        });
    }

    /** With 6 records, each undoable method makes one more and drops the oldest. */
    private void oldestIsDropped(Desk.Setup setup) {
        Desk.Setup six = setup.then(SIX_RECORDS);
        Desk.Call[] calls = {x -> x.reset(1), x -> x.disconnect(0), x -> x.setWeight(1, 0), x -> x.setTrend(1, 0),
            x -> x.allow(0), x -> x.run()};
        for (Desk.Call call : calls) {
            desk.due(6, six.then(x -> call.on(x)), x -> Desk.records(x));
            desk.due(2, six.then(x -> call.on(x)).then(x -> Desk.records(x)), x -> x.node(0, 0));
        }
        Desk.Setup small = PATH.then(SIX_RECORDS);
        desk.due(6, small.then(x -> x.connect(2, 0, 1)), x -> Desk.records(x));
        desk.due(2, small.then(x -> x.connect(2, 0, 1)).then(x -> Desk.records(x)), x -> x.node(0, 0));
        desk.due(6, small.then(x -> x.forbid(0, 0, 1)), x -> Desk.records(x));
        desk.due(2, small.then(x -> x.forbid(0, 0, 1)).then(x -> Desk.records(x)), x -> x.node(0, 0));
    }

    private void exceptions() {
        desk.says(TERMS, "A call that throws an exception changes nothing.");
        Desk.Setup busy = PATH.then(SIX_RECORDS).then(x -> x.forbid(0, 7, 9)).then(Desk.text("w0=1;x"));
        desk.refused(INDEX, busy, x -> x.connect(3, 0, 1), x -> x.disconnect(2), x -> x.setWeight(3, 1), x -> x.setTrend(3, 1),
                x -> x.forbid(2, 0, 1), x -> x.allow(1), x -> x.edge(2, 0), x -> x.node(3, 0), x -> x.stretch(1, 0),
                x -> x.distance(0, 3), x -> x.next(3, 0), x -> x.distanceTo(3, 0, 0, 1, 0), x -> x.height(7, 2, 0, 1, 0),
                x -> Desk.truth(x.isAllowed(2, 0, 1)), x -> x.cost(2, 0, 1, 0), x -> x.corner(2, 0, 0),
                x -> x.covered(2, 0, 0), x -> x.radiusWithout(2, 0));
        desk.refused(ARGUMENT, busy, x -> x.reset(9), x -> x.connect(0, 0, 1), x -> x.setWeight(0, 10), x -> x.setTrend(0, 10),
                x -> x.forbid(0, 1, 1), x -> x.count(4), x -> x.edge(0, 3), x -> x.node(0, 3), x -> x.stretch(0, 3),
                x -> x.distanceTo(0, 0, 0, 0, 0), x -> Desk.truth(x.isAllowed(0, 0, 0)), x -> x.height(8, 0, 0, 1, 0),
                x -> x.cost(0, 0, 0, 0), x -> x.corner(0, 0, 4), x -> x.radius(8, 0), x -> x.center(7, 3), x -> x.critical(8),
                x -> x.median(5), x -> x.radiusOf(4, 0), x -> x.group(1, 1), x -> x.covering(0, 0), x -> x.covered(0, 11, 0),
                x -> x.changedRadius(11, 0), x -> x.radiusWithout(0, 2), x -> x.type(127), x -> x.run());
        desk.refused(STATE, busy, x -> x.connect(0, 1, 1));
        desk.refused(STATE, FULL.then(SIX_RECORDS).then(FULL_TEXT), x -> x.connect(6, 4, 1), x -> x.forbid(0, 0, 1),
                x -> x.type(32));
        desk.refused(STATE, APART.then(SIX_RECORDS).then(FULL_TEXT), x -> x.distanceTo(2, 0, 0, 1, 0),
                x -> x.height(0, 0, 0, 1, 0), x -> x.cost(0, 0, 1, 0), x -> x.corner(0, 0, 0), x -> x.radius(0, 0),
                x -> x.center(0, 0), x -> x.critical(0), x -> x.median(0), x -> x.radiusOf(1, 0), x -> x.group(1, 0),
                x -> x.covering(0, 1), x -> x.covered(0, 0, 0), x -> x.changedRadius(0, 0));
        desk.refused(STATE, FULL_TEXT, x -> x.undo());
        desk.says(TERMS, "If several exceptions of a method apply, the one that is listed first is thrown.");
        desk.refused(INDEX, FULL, x -> x.connect(8, 8, 51), x -> x.forbid(12, 1, 1), x -> x.connect(8, 0, 1));
        desk.refused(ARGUMENT, FULL, x -> x.connect(0, 0, 1), x -> x.connect(0, 1, 51), x -> x.forbid(0, 1, 1));
        desk.refused(INDEX, APART, x -> x.distanceTo(4, 0, 0, 0, 2), x -> x.height(16, 1, 0, 0, 2), x -> x.cost(1, 0, 0, 2),
                x -> x.corner(1, 0, 4), x -> x.covered(1, -1, -1));
        desk.refused(ARGUMENT, APART, x -> x.distanceTo(2, 0, 0, 0, 2), x -> x.height(16, 0, 0, 0, 2), x -> x.cost(0, 0, 0, 2),
                x -> x.corner(0, 0, 4), x -> x.covered(0, -1, -1), x -> x.radius(16, 2), x -> x.center(16, 3),
                x -> x.critical(16), x -> x.median(5), x -> x.radiusOf(0, 2), x -> x.group(0, 0), x -> x.covering(-1, 0),
                x -> x.changedRadius(11, 2));
        desk.refused(ARGUMENT, FULL_TEXT, x -> x.type(31));
        desk.says(TERMS, "NONE is returned only if no exception applies.");
        desk.refused(INDEX, NEW, x -> x.distance(0, 4), x -> x.next(4, 4), x -> x.corner(0, 9, 0), x -> x.radiusWithout(0, 0));
        desk.refused(STATE, APART, x -> x.corner(0, 9, 0), x -> x.corner(0, -1, 0));
        desk.refused(ARGUMENT, PATH, x -> x.corner(0, 9, 4), x -> x.radiusWithout(0, 2));
        desk.due(NONE, NEW, x -> x.distance(0, 3));
        desk.due(NONE, NEW, x -> x.next(3, 3));
        desk.due(NONE, NEW, x -> x.diameter());
        desk.due(NONE, PATH, x -> x.corner(0, 9, 0));
        desk.due(NONE, PATH, x -> x.radiusWithout(0, 0));
        desk.due(NONE, NEW, x -> x.fault());
    }

    // ---- the promises

    private void type() {
        desk.says(31, "Appends a character to the text.");
        fault(1, "w");
        fault(NONE, "w0=1;");
        fault(1, "ww");
        desk.says(31, "`c`: its code, 32 to 126");
        for (int c = 32; c <= 126; c++) {
            int code = c;
            desk.due(1, NEW, x -> x.type(code));
        }
        desk.says(31, "Returns the length of the text then.");
        IntStream.range(0, 120).forEach(length ->
                desk.due(length + 1, Desk.text("w0=8;".repeat(24).substring(0, length)), x -> x.type('w')));
        desk.says(31, "Throws `IllegalArgumentException` if c is out of range");
        desk.refused(ARGUMENT, NEW, x -> x.type(31), x -> x.type(127), x -> x.type(0), x -> x.type(-1), x -> x.type(256 + 'w'),
                x -> x.type(65536 + 'w'), x -> x.type(LEAST), x -> x.type(MOST));
        desk.refused(ARGUMENT, FULL_TEXT, x -> x.type(31), x -> x.type(127), x -> x.type(LEAST));
        desk.says(31, "Throws `IllegalStateException` if the text has 120 characters");
        desk.refused(STATE, FULL_TEXT, x -> x.type(32), x -> x.type('w'), x -> x.type(126));
        desk.due(120, Desk.text("w0=8;".repeat(24).substring(1)), x -> x.type(';'));
        desk.due(1, FULL_TEXT.then(x -> x.clearText()), x -> x.type(';'));
        desk.due(0, SIX_RECORDS.then(x -> Desk.records(x)).then(FULL_TEXT), x -> Desk.records(x));
    }

    private void clearText() {
        desk.says(32, "Empties the text.");
        desk.due(NONE, Desk.text("y").then(x -> x.clearText()), x -> x.fault());
        desk.due(1, FULL_TEXT.then(x -> x.clearText()), x -> x.type('w'));
        desk.due(1, FULL_TEXT.then(x -> x.clearText()).then(x -> x.type('w')), x -> x.fault());
        desk.alike(Desk.made(FULL_TEXT.then(x -> x.clearText())), Desk.made(NEW));
        desk.alike(Desk.made(SIX_RECORDS.then(FULL_TEXT).then(x -> x.clearText())), Desk.made(SIX_RECORDS));
        desk.says(32, "Returns the length that it had.");
        desk.due(0, NEW, x -> x.clearText());
        desk.due(1, Desk.text(" "), x -> x.clearText());
        desk.due(120, FULL_TEXT, x -> x.clearText());
        desk.due(0, FULL_TEXT.then(x -> x.clearText()), x -> x.clearText());
        desk.due(120, FULL_TEXT.then(x -> x.run()), x -> x.clearText());
        desk.due(120, FULL_TEXT.then(x -> x.reset(1)), x -> x.clearText());
    }

    private void fault() {
        desk.says(33, "Returns the fault of the text.");
        desk.quiet(FULL_TEXT, x -> x.fault());
        desk.quiet(Desk.text("w0="), x -> x.fault());
        fault(3, "w0=");
        desk.says(33, "an index from 0");
        fault(0, "=");
        fault(119, "w0=8;".repeat(23) + "w0=8=");
        desk.says(33, "NONE if the text is a script");
        fault(NONE, "");
        fault(NONE, " ");
        fault(NONE, "99-99:99;x99:99-99;w99=99;v99=99;");
        desk.due(NONE, FULL_TEXT, x -> x.fault());
    }

    private void runScripts() {
        desk.says(34, "Carries out the script of the text, which stays.");
        Desk.Setup two = Desk.text("0-1:5;x0:0-5;");
        desk.due(1, two.then(x -> x.run()), x -> x.count(2));
        desk.due(13, two.then(x -> x.run()), x -> x.clearText());
        desk.due(1, two.then(x -> x.run()), x -> x.run());
        desk.due(2, two.then(x -> x.run()).then(x -> x.run()), x -> x.count(2));
        desk.due(9, x -> Desk.script(x, "w0=2;w0=9;"), x -> x.node(0, 0));
        desk.says(34, "All of it is one undoable change (also if all commands are skipped, or there are none).");
        desk.undoable(two, x -> x.run());
        desk.undoable(Desk.text("w4=1;"), x -> x.run());
        desk.undoable(Desk.text("w0=1;"), x -> x.run());
        desk.undoable(Desk.text("   "), x -> x.run());
        desk.undoable(NEW, x -> x.run());
        desk.undoable(FULL.then(FULL_TEXT), x -> x.run());
        desk.due(6, SIX_RECORDS.then(x -> x.run()), x -> Desk.records(x));
        desk.due(2, SIX_RECORDS.then(x -> x.run()).then(x -> Desk.records(x)), x -> x.node(0, 0));
        desk.says(34, "Returns the number of commands that were not skipped.");
        desk.due(0, NEW, x -> x.run());
        desk.due(0, Desk.text(" ".repeat(120)), x -> x.run());
        desk.due(1, Desk.text("w0=1;"), x -> x.run());
        desk.due(24, FULL_TEXT, x -> x.run());
        desk.due(2, Desk.text("0-1:5;w4=1;0-1:5;x0:0-5;"), x -> x.run());
        desk.due(12, Desk.FULL.then(x -> x.reset(8)).then(TWELVE_AND_MORE), x -> x.run());
        desk.due(6, PAIR.then(Desk.text("x0:0-1;".repeat(7))), x -> x.run());
    }

    private static final Desk.Setup TWELVE_AND_MORE =
            Desk.text("0-1:5;0-2:5;0-3:5;0-4:5;0-5:5;0-6:5;0-7:5;1-2:5;1-3:5;1-4:5;1-5:5;1-6:5;1-7:5;2-3:5;");

    private void skippedCommands() {
        desk.says(34, "A command whose call would throw an exception is skipped.");
        String[] onNew = {"4-0:5;", "0-4:5;", "0-0:5;", "0-1:0;", "0-1:51;", "w4=1;", "w0=10;", "v4=1;", "v0=10;", "x0:0-1;"};
        for (String command : onNew) {
            skipped(NEW, command);
        }
        String[] onPath = {"0-1:5;", "1-0:5;", "3-0:5;", "x2:0-1;", "x0:1-1;", "x0:2-1;", "x0:0-11;", "x1:6-7;"};
        for (String command : onPath) {
            skipped(PATH, command);
        }
        String[] onFull = {"4-6:5;", "8-0:5;", "x0:0-1;", "x11:0-50;", "x12:0-1;", "w8=1;", "v8=1;"};
        for (String command : onFull) {
            skipped(FULL, command);
        }
        String[] carriedOut = {"2-0:1;", "2-0:50;", "w0=0;", "w2=9;", "v0=0;", "v2=9;", "x0:0-1;", "x0:9-10;", "x1:0-6;"};
        for (String command : carriedOut) {
            desk.due(1, PATH.then(Desk.text(command)), x -> x.run());
            desk.due(2, PATH.then(Desk.text("w9=1;" + command + "0-0:0;w0=1;")), x -> x.run());
        }
    }

    /** A command that is skipped leaves the network, and those beside it are carried out. */
    private void skipped(Desk.Setup setup, String command) {
        desk.due(0, setup.then(Desk.text(command)), x -> x.run());
        desk.due(2, setup.then(Desk.text("w0=3;" + command + "v0=4;")), x -> x.run());
        NetworkCenters x = Desk.made(setup);
        Desk.script(x, command);
        NetworkCenters y = Desk.made(setup);
        Desk.script(y, "");
        desk.alike(x, y);
    }

    private void runRefusals() {
        desk.says(34, "Throws `IllegalArgumentException` if the text has a fault");
        desk.refused(ARGUMENT, Desk.text("w"), x -> x.run());
        desk.refused(ARGUMENT, Desk.text(";"), x -> x.run());
        desk.refused(ARGUMENT, Desk.text("w0=9;w1=9;y"), x -> x.run());
        desk.refused(ARGUMENT, Desk.text("w0=9"), x -> x.run());
        desk.refused(ARGUMENT, Desk.text("w0=100;"), x -> x.run());
        desk.refused(ARGUMENT, SIX_RECORDS.then(Desk.text("w0=8;".repeat(23) + "w0=88")), x -> x.run());
        desk.refused(ARGUMENT, FULL.then(SIX_RECORDS).then(Desk.text("w0=9;;")), x -> x.run());
    }

    private void undo() {
        desk.says(35, "Restores the latest record and removes it.");
        desk.alike(Desk.made(FULL.then(x -> x.reset(1)).then(x -> x.undo())), Desk.made(FULL));
        desk.alike(Desk.made(PATH.then(x -> x.setWeight(0, 9)).then(x -> x.undo())), Desk.made(PATH));
        desk.alike(Desk.made(SIX_RECORDS.then(x -> Desk.records(x))), Desk.made(NEW));
        desk.due(2, SIX_RECORDS.then(x -> x.undo()).then(x -> x.reset(2)).then(x -> Desk.records(x)).then(x -> x.reset(1))
                .then(x -> x.undo()).then(x -> x.setWeight(0, 2)), x -> x.node(0, 0));
        desk.due(120, SIX_RECORDS.then(FULL_TEXT).then(x -> x.undo()), x -> x.clearText());
        desk.due(8, PATH.then(x -> x.connect(0, 2, 1)).then(x -> x.radius(7, 0)).then(x -> x.undo()), x -> x.radius(7, 0));
        desk.says(35, "Returns how many records are left.");
        IntStream.rangeClosed(1, 6).forEach(made -> desk.due(made - 1, x -> {
            for (int i = 0; i < made; i++) {
                x.setTrend(0, i);
            }
        }, x -> x.undo()));
        desk.due(5, SIX_RECORDS.then(x -> x.setTrend(0, 1)), x -> x.undo());
        desk.due(5, SIX_RECORDS.then(x -> x.undo()).then(x -> x.setTrend(0, 1)), x -> x.undo());
        desk.says(35, "Throws `IllegalStateException` if there is none");
        desk.refused(STATE, NEW, x -> x.undo());
        desk.refused(STATE, FULL_TEXT, x -> x.undo());
        desk.refused(STATE, SIX_RECORDS.then(x -> Desk.records(x)), x -> x.undo());
        desk.refused(STATE, FULL.then(x -> Desk.records(x)), x -> x.undo());
    }

    // ---- the checksum

    private void checksum() {
        desk.says(36, "It starts with h = 18473, and for each of the following numbers v, in order, h becomes 31 * h + v (long"
                + " arithmetic that wraps)");
        Sum atFirst = new Sum();
        for (int v : new int[] {4, 0, 0, 0, 1, 0, 0, 1, 0, 0, 1, 0, 0, 1, 0, 0, 0, 0}) {
            atFirst.add(v);
        }
        desk.same(atFirst.value(), Desk.made(NEW).checksum());
        desk.says(36, "if the network is connected and has an edge");
        Desk.Setup[] setups = {NEW, LONE, PAIR, PATH, APART, Desk.RING, Desk.DETOUR, Desk.LINE, FULL, x -> x.reset(2),
            PATH.then(Desk.weights(0, 0, 0)), PATH.then(Desk.weights(1, 1, 2)).then(x -> x.forbid(0, 7, 9)),
            PATH.then(x -> x.disconnect(1)), FULL.then(SIX_RECORDS).then(FULL_TEXT)};
        for (Desk.Setup setup : setups) {
            desk.same(sumOf(Desk.made(setup), Desk.records(Desk.made(setup))), Desk.made(setup).checksum());
            desk.quiet(setup, x -> x.checksum());
        }
        desk.says(36, "the length of the text; the number of records.");
        lastNumbers(0, 0, NEW);
        lastNumbers(120, 0, FULL_TEXT);
        lastNumbers(0, 6, SIX_RECORDS.then(x -> Desk.records(x)).then(x -> SIX_RECORDS.on(x)).then(x -> x.setWeight(0, 1)));
        lastNumbers(120, 6, SIX_RECORDS.then(x -> x.setWeight(0, 1)).then(FULL_TEXT));
        desk.says(36, "Computes a checksum.");
        desk.due(4, x -> x.checksum(), x -> x.count(0));
        desk.says(36, "Returns the checksum.");
        desk.check(Desk.made(NEW).checksum() == Desk.made(NEW).checksum(), "two new objects differ");
        desk.check(Desk.made(NEW).checksum() != Desk.made(LONE).checksum(), "two networks do not differ");
    }

    /** The checksum of the network at first, with a text and records. */
    private void lastNumbers(int length, int records, Desk.Setup setup) {
        Sum due = new Sum();
        for (int v : new int[] {4, 0, 0, 0, 1, 0, 0, 1, 0, 0, 1, 0, 0, 1, 0, 0, length, records}) {
            due.add(v);
        }
        desk.same(due.value(), Desk.made(setup).checksum());
    }

    /** The sum without bound, of which the checksum is the lowest 64 bits. */
    private static final class Sum {
        private BigInteger h = BigInteger.valueOf(18473);

        void add(long v) {
            h = h.multiply(BigInteger.valueOf(31)).add(BigInteger.valueOf(v));
        }

        long value() {
            return h.longValue();
        }
    }

    /** The checksum from the answers of the other calls; uses the object up. */
    private static long sumOf(NetworkCenters x, int records) {
        Sum sum = new Sum();
        IntStream.range(0, 4).forEach(what -> sum.add(x.count(what)));
        IntStream.range(0, x.count(0) * 3).forEach(i -> sum.add(x.node(i / 3, i % 3)));
        IntStream.range(0, x.count(1) * 3).forEach(i -> sum.add(x.edge(i / 3, i % 3)));
        IntStream.range(0, x.count(2) * 3).forEach(i -> sum.add(x.stretch(i / 3, i % 3)));
        if (x.count(3) == 1 && x.count(1) > 0) {
            int all = (1 << x.count(0)) - 1;
            IntStream.range(0, 2).forEach(part -> sum.add(x.radius(all, part)));
            IntStream.range(0, 3).forEach(what -> sum.add(x.center(all, what)));
            sum.add(x.critical(all));
            IntStream.range(0, 5).forEach(what -> sum.add(x.median(what)));
            IntStream.range(0, 2).forEach(part -> sum.add(x.radiusOf(2, part)));
            IntStream.range(0, x.count(1) * 4).forEach(i -> sum.add(x.corner(i / 4, 1, i % 4)));
        }
        sum.add(x.clearText());
        sum.add(records);
        return sum.value();
    }
}
