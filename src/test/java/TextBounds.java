/** The boundary cases of the tape and of texts: 'Workflows', what 'In doubt' says of them, promises 1 to 5. */
final class TextBounds {
    private static final int FORM = 1, LIMIT = 2;
    private static final String SIGNS = "twsx[(|;:<=+-,qrc)]0129ahi34", BEGINNINGS = "twsx[(";
    private static final String[] RIGHT = {"tar2+30cb;w40;sc,90;x1=-57;x1+7;td", "[x0<-30:x0+1;[x3<12:x0=1|tacb]|tb;sa]",
        "(tace;tb|tbcf;td|w9|sa,0)q3;th", "((((ta|sb)q2|w1)q1)|x1=-1;[x1<0:(w1;(ta))|(sc)])q2;w0", "x0=100;".repeat(11) + "ta",
        "w1;".repeat(23) + "w1", "(w1|w1|w1|(w1|w1|w1|w1)q4)q4;((w1)|(w1))q2"};

    private TextBounds() {
    }

    static void all() {
        newObject();
        feed();
        workflowsAndVersions();
        signs();
        numbers();
        parts();
        items();
        open();
        bodies();
        errorPositions();
        everyByte();
        everyShortText();
        define();
        wrongText();
        wrong();
        version();
        properties();
        widths();
    }

    private static void right(String text) {
        TextTest.right(text);
    }

    private static void wrong(String text, int place, int reason) {
        TextTest.wrong(text, place, reason);
    }

    private static void newObject() {
        Check.says("Promise 1", "Creates an engine without versions and instances.");
        WorkflowEngine engine = new WorkflowEngine();
        Check.same("instances", 0, engine.count(1));
        Check.same("versions", 0, engine.count(5));
        for (int i = 0; i < 6; i++) {
            Check.same("instance " + i, -1, engine.instance(i, 0));
            Check.same("remove " + i, -1, engine.remove(i));
            Check.same("version 0 of " + i, -1, engine.version(i, 0, 0));
            Check.same("latest version of " + i, -1, engine.version(i, -1, 0));
        }
    }

    private static void feed() {
        Check.says("Promise 2", "the byte, 0 to 127");
        for (int sign = 0; sign <= 127; sign++) {
            Check.same("feed " + sign, 1, new WorkflowEngine().feed(sign));
        }
        Check.says("Promise 2", "BAD if sign is out of range");
        for (int sign : Scenes.outside(0, 127)) {
            Check.same("feed first " + sign, -2, new WorkflowEngine().feed(sign));
            Scenes.refused("feed " + sign, -2, engine -> engine.feed(sign));
        }
        Check.says("Promise 2", "Returns the new length of the tape");
        WorkflowEngine engine = new WorkflowEngine();
        for (int i = 1; i < 80; i++) {
            Check.same("feed", i, engine.feed('t'));
        }
        Check.says("Workflows", "the tape, which holds at most 80 bytes");
        Check.same("an 80th byte", 80, engine.feed('t'));
        Check.same("an 81st byte", -4, engine.feed('t'));
        Check.same("bytes", 80, engine.count(4));
        Check.says("Promise 2", "FULL if the tape has 80 bytes");
        Scenes.refused("feed 0", -4, Scenes::fullTape, full -> full.feed(0));
        Scenes.refused("feed 127", -4, Scenes::fullTape, full -> full.feed(127));
        Check.says("Promise 2", "Appends a byte to the tape.");
        engine = Scenes.fullTape();
        Check.same("an 81st byte", -4, engine.feed(';'));
        Check.same("define", 0, engine.define(Scenes.EMPTY));
        Check.same("all 80 bytes are read", 80, engine.version(Scenes.EMPTY, 0, 3));
        Check.same("the emptied tape takes bytes again", 1, engine.feed('t'));
        Check.says("Errors", "If several errors apply, the one that is listed first in the @return line is returned.");
        for (int sign : Scenes.outside(0, 127)) {
            Scenes.refused("feed " + sign, -2, Scenes::fullTape, full -> full.feed(sign));
        }
    }

    private static void workflowsAndVersions() {
        Check.says("Workflows", "There are 4 workflows, numbered from 0, with at most 4 versions each, numbered from 0.");
        WorkflowEngine engine = new WorkflowEngine();
        for (int version = 0; version < 4; version++) {
            for (int workflow = 0; workflow < 4; workflow++) {
                Check.same("define", version, Check.define(engine, workflow, "w1" + workflow + version + ";ta".repeat(version)));
            }
        }
        Check.same("versions", 16, engine.count(5));
        engine.feed('w');
        for (int workflow = 0; workflow < 4; workflow++) {
            Check.same("a fifth version", -4, engine.define(workflow));
            for (int version = 0; version < 4; version++) {
                Check.same("each is its own", version + 1, engine.version(workflow, version, 0));
            }
        }
        Check.same("a fifth workflow", -1, engine.define(4));
    }

    /** All signs from the least to the greatest are right in a place, and the ones beside them wrong. */
    private static void between(String before, char least, char greatest, String after) {
        for (char sign = least; sign <= greatest; sign++) {
            right(before + sign + after);
        }
        wrong(before + (char) (least - 1) + after, before.length(), FORM);
        wrong(before + (char) (greatest + 1) + after, before.length(), FORM);
    }

    private static void signs() {
        Check.says("Workflows", "A code is a letter a to h, numbered 0 to 7");
        for (String before : new String[] {"t", "tac", "tar1c", "tar9+999c", "s"}) {
            between(before, 'a', 'h', "");
        }
        between("t", 'a', 'h', "r1+1cb");
        between("s", 'a', 'h', ",9");
        wrong("tA", 1, FORM);
        for (int code = 0; code < 8; code++) {
            WorkflowEngine engine = Check.started("t" + (char) ('a' + code) + "c" + (char) ('h' - code) + ";w9");
            Check.same("its number", code, engine.entry(0, 0, 2));
            engine.pass(1);
            engine.duration(7 - code, 0);
            Check.same("abort", 3, engine.abort(0));
            Check.same("its number", 7 - code, engine.entry(0, 3, 2));
            engine = Check.started("s" + (char) ('a' + code) + ",0");
            Check.same("its number", code, engine.entry(0, 0, 2));
        }
        Check.says("Workflows", "a variable a digit 0 to 3");
        between("x", '0', '3', "=1");
        between("x", '0', '3', "+-1");
        between("[x", '0', '3', "<1:w1|w1]");
        for (int variable = 0; variable < 4; variable++) {
            WorkflowEngine engine = Check.started("x" + variable + "=7");
            for (int other = 0; other < 4; other++) {
                Check.same("variable " + other, other == variable ? 7 : 0, engine.instance(0, 10 + other));
            }
        }
        Check.says("Workflows", "\"r\" digit");
        between("tar", '0', '9', "");
        between("tar", '0', '9', "+0ca");
        wrong("tar10", 4, FORM);
        Check.says("Workflows", "the digit after q is from 1 to the number of its bodies");
        for (int bodies = 1; bodies <= 4; bodies++) {
            between("(w1" + "|w1".repeat(bodies - 1) + ")q", '1', (char) ('0' + bodies), "");
        }
        between("((w1|w1|w1)|w1)q", '1', '2', "");
        between("(w1|(w1)", 'q', 'q', "1)");
        wrong("(w1|w1)q11", 9, FORM);
    }

    private static void numbers() {
        String[][] places = {{"w", ""}, {"w", ";w1"}, {"sa,", ""}, {"tar1+", ""}, {"tar1+", "ca"}, {"x0=", ""}, {"x3+", ""},
            {"x0=-", ""}, {"x3+-", ""}, {"[x0<", ":w1|w1]"}, {"[x0<-", ":w1|w1]"}, {"(w", "|w1)"}};
        for (String[] place : places) {
            Check.says("Workflows", "a number has 1 to 3 digits");
            for (String number : new String[] {"1", "9", "10", "99", "100", "101", "999"}) {
                right(place[0] + number + place[1]);
            }
            wrong(place[0] + place[1], place[0].length(), FORM);
            for (String number : new String[] {"1000", "9990", "12345"}) {
                wrong(place[0] + number + place[1], place[0].length() + 3, FORM);
            }
            Check.says("Workflows", "without leading zeros unless it is 0");
            right(place[0] + "0" + place[1]);
            for (String number : new String[] {"00", "01", "000", "09", "0999"}) {
                wrong(place[0] + number + place[1], place[0].length() + 1, FORM);
            }
        }
        Check.says("Workflows", "[ \"-\" ] number");
        for (String text : new String[] {"x0=-0", "x0+-0", "x1=-999", "[x0<-0:w1|w1]", "[x0<-999:w1|w1]"}) {
            right(text);
        }
        wrong("x0=--1", 4, FORM);
        wrong("x0+--1", 4, FORM);
        wrong("x0=+1", 3, FORM);
        wrong("[x0<--1:w1|w1]", 5, FORM);
        wrong("w-1", 1, FORM);
        wrong("sa,-1", 3, FORM);
        wrong("tar1+-1", 5, FORM);
        wrong("tar-1", 3, FORM);
    }

    private static void parts() {
        Check.says("Workflows", "[ ] means that the part may be left out");
        for (String text : new String[] {"ta", "tar1", "tar1+2", "tacb", "tar1cb", "tar1+2cb", "sa", "sa,1", "(w1)", "(w1)q1"}) {
            right(text);
        }
        Check.says("Workflows", "that it may be repeated or left out");
        right("w1");
        right("w1;w1");
        right("w1;w1;w1");
        right("(w1)");
        right("(w1|w1;w1)");
        right("[x0<1:w1;w1|w1;w1;w1]");
        wrong("tar1r1", 4, FORM);
        wrong("ta+1", 2, FORM);
        wrong("tacbr1", 4, FORM);
        wrong("tacbcb", 4, FORM);
        wrong("tar1+1+1", 6, FORM);
        wrong("sa,1,1", 4, FORM);
        wrong("(w1)q1q1", 6, FORM);
        Check.says("Workflows", "\"[\" \"x\" variable \"<\" [ \"-\" ] number \":\" body \"|\" body \"]\"");
        wrong("[x0<1:w1]", 8, FORM);
        wrong("[x0<1:w1|w1|w1]", 11, FORM);
        Check.says("Workflows", "without spaces");
        wrong(" ta", 0, FORM);
        wrong("t a", 1, FORM);
        wrong("ta ", 2, FORM);
        wrong("ta; tb", 3, FORM);
        Check.says("Workflows", "body = item { \";\" item }");
        wrong(";ta", 0, FORM);
        wrong("ta;", 3, FORM);
        wrong("ta;;tb", 3, FORM);
        wrong("tatb", 2, FORM);
        wrong("()", 1, FORM);
        wrong("(w1|)", 4, FORM);
        wrong("[x0<1:|w1]", 6, FORM);
        wrong("[x0<1:w1|]", 9, FORM);
        wrong("ta|tb", 2, FORM);
        wrong("ta)", 2, FORM);
        wrong("ta]", 2, FORM);
    }

    /** Of all bytes in a place where an item or a body is one too many, those that begin an item are beyond the limit. */
    private static void beyond(String before, String beginnings) {
        for (char sign = 0; sign <= 127; sign++) {
            boolean begins = beginnings.indexOf(sign) >= 0;
            if (begins || BEGINNINGS.indexOf(sign) < 0) {
                wrong(before + sign, before.length(), begins ? LIMIT : FORM);
            }
        }
        wrong(before, before.length(), FORM);
    }

    private static void items() {
        Check.says("Workflows", "A version has at most 24 items");
        String most = "w1;".repeat(23);
        right(most + "w1");
        right(most + "ta");
        right("w1;".repeat(22) + "(w1)");
        right("(" + "w1;".repeat(22) + "w1)");
        right("w1;".repeat(21) + "((w1))");
        String half = "w1" + ";w1".repeat(10);
        right("[x0<1:" + half + "|" + half + ";w1]");
        right("(" + half + ";w1|" + half + ")");
        wrong(most + "w1;w1", 72, LIMIT);
        wrong(most + "(w1)", 70, LIMIT);
        wrong(most + "[x0<1:w1|", 75, LIMIT);
        wrong("(" + most + "w1)", 70, LIMIT);
        wrong("[x0<1:" + half + ";w1|" + half + ";w1]", 75, LIMIT);
        wrong("(" + half + ";w1|" + half + ";w1)", 70, LIMIT);
        Check.says("In doubt", "A byte that begins no item is an error of the form, also where an item or a body would be one too many");
        beyond(most + "w1;", BEGINNINGS);
        beyond(most + "(", BEGINNINGS);
        beyond("w1;".repeat(20) + "(w1|w1;w1|", BEGINNINGS);
        beyond("w1;".repeat(18) + "(w1|w1|w1|w1;w1|", BEGINNINGS);
        Check.says("Workflows", "These limits are looked at only where the byte stands that would be the first one of an item"
            + " that is one too many");
        wrong(most + "w1;", 72, FORM);
        wrong(most + "w12;", 73, FORM);
        wrong(most + "w1)", 71, FORM);
        wrong(most + "t", 70, FORM);
        wrong(most + "tz;w1", 70, FORM);
        wrong(most + "w1;w1;w1;z", 72, LIMIT);
    }

    private static void open() {
        Check.says("Workflows", "at most 4 choices and parallels may be open at the same time");
        right("((((w1))))");
        right("((((w1))));((((w1))))");
        right("(((w1|(w1);(w1))))");
        right("([x0<1:([x1<1:w1|w1])|w1])");
        right("[x0<1:".repeat(4) + "w1" + "|w1]".repeat(4));
        right("[x0<1:w1|[x0<1:w1|[x0<1:w1|[x0<1:w1|w1]]]]");
        right("([x0<1:(w1)|(w1)];([x0<1:w1|w1]))");
        wrong("(((((w1)))))", 4, LIMIT);
        wrong("((((w1);((w1)))))", 9, LIMIT);
        wrong("[x0<1:w1|[x0<1:w1|[x0<1:w1|[x0<1:w1|(w1)]]]]", 36, LIMIT);
        Check.says("Workflows", "of a choice or parallel that would be one too many open");
        beyond("((((", "[(");
        beyond("((((w1|", "[(");
        beyond("((((w1;", "[(");
        beyond("[x0<1:".repeat(4), "[(");
        beyond("[x0<1:".repeat(4) + "w1|", "[(");
        for (char sign : new char[] {'t', 'w', 's', 'x'}) {
            wrong("((((" + sign, 5, FORM);
        }
        right("((((ta;w1;sa;x0=1))))");
    }

    private static void bodies() {
        Check.says("Workflows", "a parallel has at most 4 bodies");
        right("(w1)");
        right("(w1|w1|w1|w1)");
        right("((w1|w1|w1|w1)|(w1|w1|w1|w1)|w1|w1)");
        right("(w1|w1|w1|[x0<1:w1|w1])");
        wrong("(w1|w1|w1|w1|w1)", 13, LIMIT);
        wrong("(w1|(w1|w1|w1|w1|w1)", 17, LIMIT);
        wrong("(w1|(w1|w1)|w1|(w1)|w1)", 20, LIMIT);
        Check.says("Workflows", "or of a fifth body: it is the error position then, with the reason 2");
        beyond("(w1|w1|w1|w1|", BEGINNINGS);
        beyond("(w1|(w1|(w1|(w1|w1|w1|w1|", BEGINNINGS);
        beyond("(((w1|w1|w1|w1)|w1|w1|w1|", BEGINNINGS);
        beyond("[x0<1:(w1|w1|w1|w1|", BEGINNINGS);
        Check.says("In doubt", "a fifth body is one too many at its first byte, and a text that ends there ends too early");
        wrong("(w1|w1|w1|w1|", 13, FORM);
        wrong("(w1|w1|w1|w1|)", 13, FORM);
        wrong("(w1|w1|w1|w1||", 13, FORM);
        wrong("(w1|w1|w1|w1;", 13, FORM);
        wrong("(w1|w1|w1|w1", 12, FORM);
        wrong("(w1|w1|w1|w1|tz", 13, LIMIT);
    }

    private static void errorPositions() {
        Check.says("Workflows", "The error position of a text is the index of its first byte with which no text can continue");
        wrong("z", 0, FORM);
        wrong("tzz;z", 1, FORM);
        wrong("ta;z;(((((", 3, FORM);
        wrong("x0=100;".repeat(11) + "taz", 79, FORM);
        wrong("" + (char) 0, 0, FORM);
        wrong("ta" + (char) 127, 2, FORM);
        Check.says("Workflows", "or its length if it ends too early");
        wrong("", 0, FORM);
        wrong("t", 1, FORM);
        wrong("x0=100;".repeat(11) + "tar", 80, FORM);
        for (String text : RIGHT) {
            right(text);
            for (int i = 0; i < text.length(); i++) {
                String part = text.substring(0, i);
                if (Model.fault(part) != null) {
                    wrong(part, i, FORM);
                } else {
                    right(part);
                }
            }
        }
        Check.says("Workflows", "every other error has the reason 1");
        wrong("(((((;w1", 4, LIMIT);
        wrong("((((;(w1", 4, FORM);
        wrong("(w1|w1|w1|w1|w1;z", 13, LIMIT);
        wrong("(w1|w1|w1|w1z|w1", 12, FORM);
    }

    /** Each byte behind each beginning of some right texts, beside the model's error position and reason. */
    private static void everyByte() {
        Check.says("Workflows", "first byte with which no text can continue");
        WorkflowEngine engine = new WorkflowEngine();
        engine.image();
        for (String text : RIGHT) {
            for (int i = 0; i < Math.min(text.length(), 80); i++) {
                for (char sign = 0; sign <= 127; sign++) {
                    sameFault(engine, text.substring(0, i) + sign);
                }
            }
        }
    }

    /** All texts of up to three of the signs that a text can have. */
    private static void everyShortText() {
        WorkflowEngine engine = new WorkflowEngine();
        engine.image();
        for (int first = 0; first < SIGNS.length(); first++) {
            sameFault(engine, SIGNS.substring(first, first + 1));
            for (int second = 0; second < SIGNS.length(); second++) {
                sameFault(engine, "" + SIGNS.charAt(first) + SIGNS.charAt(second));
                for (int third = 0; third < SIGNS.length(); third++) {
                    sameFault(engine, "" + SIGNS.charAt(first) + SIGNS.charAt(second) + SIGNS.charAt(third));
                }
            }
        }
    }

    private static void sameFault(WorkflowEngine engine, String text) {
        for (int i = 0; i < text.length(); i++) {
            engine.feed(text.charAt(i));
        }
        int[] fault = Model.fault(text);
        Check.same(text, fault == null ? 0 : -100 - fault[0], engine.define(0));
        Check.same(text, fault == null ? -5 : fault[0], engine.wrong(0));
        Check.same(text, fault == null ? -5 : fault[1], engine.wrong(1));
        engine.undo();
    }

    private static void define() {
        Check.says("Promise 3", "the workflow, 0 to 3");
        for (int workflow = 0; workflow < 4; workflow++) {
            Check.same("define " + workflow, 0, Check.define(new WorkflowEngine(), workflow, "ta"));
        }
        Check.says("Promise 3", "NONE if workflow is invalid");
        for (int workflow : Scenes.outside(0, 3)) {
            Scenes.refused("define " + workflow, -1, engine -> engine.define(workflow));
            Scenes.refused("define " + workflow, -1, Scenes::fullTape, engine -> engine.define(workflow));
            Check.same("define nothing in " + workflow, -1, new WorkflowEngine().define(workflow));
        }
        Check.says("Promise 3", "FULL if it has 4 versions");
        WorkflowEngine engine = Check.engine("w0", "w1", "w2");
        Check.same("a fourth version", 3, Check.define(engine, 0, "w3"));
        Check.same("a fifth version", -4, engine.define(0));
        Check.same("another workflow's first", 0, Check.define(engine, 1, "w3"));
        Scenes.refused("define a fifth version", -4, full -> full.define(Scenes.ALL));
        Scenes.refused("define a fifth version", -4, Scenes::fullTape, full -> full.define(Scenes.ALL));
        Check.says("Promise 3", "and in both cases the tape is not emptied");
        engine = Scenes.busy();
        int bytes = Scenes.ON_TAPE.length();
        Check.same("define", -1, engine.define(4));
        Check.same("bytes", bytes, engine.count(4));
        Check.same("define", -4, engine.define(Scenes.ALL));
        Check.same("bytes", bytes, engine.count(4));
        Check.same("feed", bytes + 1, engine.feed(';'));
        Check.same("define all of it", -100 - bytes - 1, engine.define(Scenes.EMPTY));
        Check.says("Promise 3", "Returns the number of the version");
        engine = Scenes.busy();
        Check.same("the third one", 2, engine.define(Scenes.TWO));
        Check.same("define", 3, Check.define(engine, Scenes.TWO, "ta"));
        Check.says("Promise 3", "Reads a new version of a workflow from the tape.");
        Check.same("the text fed last", 2, engine.version(Scenes.TWO, -1, 3));
        Check.same("the text before", bytes, engine.version(Scenes.TWO, 2, 3));
        Check.says("Workflows", "A version is read from a text on the tape");
        Check.same("the versions before", 2, engine.version(Scenes.TWO, 0, 3));
        Check.says("What it is", "workflows are read from texts in versions");
        Check.same("an instance keeps its version", 1, engine.instance(Scenes.COMPENSATING, 2));
    }

    private static void wrongText() {
        Check.says("Promise 3", "-100 minus the error position if the text is wrong");
        Check.same("the least position", -100, new WorkflowEngine().define(0));
        Check.same("the least position", -100, Check.define(new WorkflowEngine(), 0, "z"));
        Check.same("the greatest position", -180, Check.define(new WorkflowEngine(), 0, "x0=100;".repeat(11) + "tar"));
        Check.same("the last byte", -179, Check.define(new WorkflowEngine(), 0, "x0=100;".repeat(11) + "tai"));
        Check.says("Promise 3", "The tape is emptied, also if the text is wrong.");
        WorkflowEngine engine = Scenes.fullTape();
        Check.same("define", 0, engine.define(Scenes.EMPTY));
        Check.same("bytes", 0, engine.count(4));
        Check.same("define again", -100, engine.define(Scenes.EMPTY));
        Check.same("define", -102, Check.define(engine, Scenes.EMPTY, "ta "));
        Check.same("bytes", 0, engine.count(4));
        Check.same("define", 1, Check.define(engine, Scenes.EMPTY, "tb"));
        Check.same("nothing is left of it", 2, engine.version(Scenes.EMPTY, 1, 3));
        nothingLeft();
        Check.says("Errors", "except that define empties the tape if the text is wrong");
        // Both engines have read a wrong text last, and have an empty tape; one has read one more.
        WorkflowEngine one = Scenes.busy();
        Check.same("define", 0, one.define(Scenes.EMPTY));
        Check.same("define", -103, Check.define(one, Scenes.EMPTY, "tb;"));
        String before = Check.state(one);
        Check.same("define", -101, Check.define(one, Scenes.ONE, "(z|((w1;tb)))"));
        Check.same("define", -103, Check.define(one, Scenes.EMPTY, "w1;"));
        Check.same("nothing else is changed", before, Check.state(one));
        Check.same("the next version", 1, Check.define(one, Scenes.EMPTY, "w1"));
    }

    /** A right text in the place of a wrong one has nothing of it. */
    private static void nothingLeft() {
        WorkflowEngine engine = new WorkflowEngine();
        for (String text : new String[] {"tar9+9ca;sa,9;x1+1;[x1<1:ta|tb];(((ta)))z", "((((tar9+9ca|ta)q1|ta)q1)q1)q1;tar9+9ca;z"}) {
            Check.same("define", -100 - text.length() + 1, Check.define(engine, 0, text));
            Check.same("define", engine.count(5), Check.define(engine, 0, "th;tg;tf;x2=1;w1;w1;(w1);sh"));
            int[] due = {9, 3, 1, 27, 1};
            for (int what = 0; what < due.length; what++) {
                Check.same("version " + what, due[what], engine.version(0, -1, what));
            }
            int instance = engine.start(0);
            engine.pass(9);
            String withoutMinutes = Check.history(engine, instance).replaceAll("[0-9]+:([0-9]+:[0-9]+)", "$1");
            Check.same("history", "0:7 2:7 0:6 2:6 0:5 2:5 8:2 9:1", withoutMinutes);
            Check.same("variable", 1, engine.instance(instance, 12));
            Check.same("the parallel is done", 6, engine.entry(instance, 7, 0) - engine.instance(instance, 3));
            Check.same("abort", 3, engine.abort(instance));
            engine.failures(7, 1);
            instance = engine.start(0);
            engine.pass(1);
            Check.same("a single attempt", 3, engine.instance(instance, 0));
        }
    }

    private static void wrong() {
        Check.says("Promise 4", "0 for the error position, 1 for the reason");
        WorkflowEngine engine = new WorkflowEngine();
        Check.same("define", -104, Check.define(engine, 0, "((((("));
        Check.same("wrong 0", 4, engine.wrong(0));
        Check.same("wrong 1", 2, engine.wrong(1));
        Check.same("define", -100, engine.define(0));
        Check.same("the position 0", 0, engine.wrong(0));
        Check.same("wrong 1", 1, engine.wrong(1));
        Check.says("Promise 4", "Returns the number");
        Scenes.asked("wrong 0", 4, busy -> busy.wrong(0));
        Scenes.asked("wrong 1", 2, busy -> busy.wrong(1));
        Check.says("Promise 4", "-5 if it was not wrong, or none was read");
        for (int what = 0; what < 2; what++) {
            Check.same("none was read", -5, new WorkflowEngine().wrong(what));
            engine = new WorkflowEngine();
            engine.feed('z');
            Check.same("none was read", -5, engine.wrong(what));
            Check.same("a refused call", -1, engine.define(-1));
            Check.same("none was read", -5, engine.wrong(what));
            Check.same("a wrong one", -100, engine.define(0));
            Check.same("a right one", 0, Check.define(engine, 0, "ta"));
            Check.same("it was not wrong", -5, engine.wrong(what));
        }
        Check.says("Promise 4", "Returns why the text that was read last was wrong.");
        engine = Check.engine("w0", "w1", "w2", "w3");
        Check.same("define", -101, Check.define(engine, 1, "tz"));
        Check.same("a fifth version", -4, Check.define(engine, 0, "tb;"));
        Check.same("a fifth workflow", -1, engine.define(4));
        Check.same("neither has read a text", 1, engine.wrong(0));
        Check.same("the text is read", -103, engine.define(2));
        Check.same("another workflow's text", 3, engine.wrong(0));
        Check.says("Promise 4", "NONE if what is invalid");
        for (int what : Scenes.outside(0, 1)) {
            Scenes.asked("wrong " + what, -1, busy -> busy.wrong(what));
        }
        Check.says("Errors", "The result -5 is returned only if no error applies.");
        for (int what : Scenes.outside(0, 1)) {
            Check.same("wrong " + what, -1, new WorkflowEngine().wrong(what));
            Check.same("wrong " + what, -1, Check.engine("ta").wrong(what));
        }
    }

    private static void version() {
        Check.says("Promise 5", "the version, or -1 for the latest one");
        String[] texts = {"ta", "w10", "w100", "ta;tb"};
        WorkflowEngine engine = new WorkflowEngine();
        for (int versions = 0; versions <= 4; versions++) {
            for (int version = 0; version <= 4; version++) {
                int due = version < versions ? 2 + version : -1;
                Check.same("version " + version + " of " + versions, due, engine.version(3, version, 3));
            }
            Check.same("the latest of " + versions, versions == 0 ? -1 : 1 + versions, engine.version(3, -1, 3));
            Check.same("the one before the first", -1, engine.version(3, -2, 3));
            Check.same("another workflow", -1, engine.version(2, -1, 3));
            if (versions < 4) {
                Check.same("define", versions, Check.define(engine, 3, texts[versions]));
            }
        }
        Check.says("Promise 5", "NONE if there is no such version or what is invalid");
        for (int workflow : Scenes.outside(0, 3)) {
            Scenes.asked("version of " + workflow, -1, busy -> busy.version(workflow, 0, 0));
            Scenes.asked("latest version of " + workflow, -1, busy -> busy.version(workflow, -1, 0));
        }
        for (int version : new int[] {-2, 4, Integer.MIN_VALUE, Integer.MAX_VALUE}) {
            Scenes.asked("version " + version, -1, busy -> busy.version(Scenes.ALL, version, 0));
        }
        Scenes.asked("the last version", 2, busy -> busy.version(Scenes.ALL, 3, 0));
        Scenes.asked("the second of two", 2, busy -> busy.version(Scenes.TWO, 1, 0));
        Scenes.asked("the third of two", -1, busy -> busy.version(Scenes.TWO, 2, 0));
        Scenes.asked("the second of one", -1, busy -> busy.version(Scenes.ONE, 1, 0));
        Scenes.asked("the first of none", -1, busy -> busy.version(Scenes.EMPTY, 0, 0));
        Scenes.asked("the latest of none", -1, busy -> busy.version(Scenes.EMPTY, -1, 0));
        for (int what : Scenes.outside(0, 4)) {
            Scenes.asked("version what " + what, -1, busy -> busy.version(Scenes.ALL, 0, what));
            Scenes.asked("version what " + what, -1, busy -> busy.version(Scenes.ALL, -1, what));
        }
        for (int what = 0; what <= 4; what++) {
            int property = what;
            int[] due = {9, 3, 2, 42, 4};
            Scenes.asked("version what " + what, due[what], busy -> busy.version(Scenes.ONE, 0, property));
        }
        Check.says("Promise 5", "Returns a property of a version.");
        engine = Check.engine("w1");
        engine.start(0);
        engine.pass(5);
        engine.remove(0);
        Check.same("the property stays without an instance", 1, engine.version(0, 0, 0));
    }

    private static void property(int what, int due, String text) {
        Check.same("version " + what + " of " + text, due, Check.engine(text).version(0, 0, what));
    }

    private static void properties() {
        String items = "w1;".repeat(23) + "w1";
        String tasks = "ta;".repeat(23) + "th";
        Check.says("Promise 5", "0 the items, those within choices and parallels included");
        property(0, 1, "w0");
        property(0, 2, "(w0)");
        property(0, 3, "[x0<1:w1|w1]");
        property(0, 24, items);
        property(0, 24, "[x0<1:(w1|w1|w1|w1);(w1|w1|w1|w1)|(w1;w1;w1;w1);w1;w1;w1];w1;w1;w1;w1;w1");
        Check.says("Promise 5", "1 the tasks");
        property(1, 0, items);
        property(1, 1, "tar9+999ca");
        property(1, 2, "[x0<1:ta|(tb)];sa");
        property(1, 24, tasks);
        Check.says("Promise 5", "2 the greatest number of choices and parallels within one another");
        property(2, 0, tasks);
        property(2, 1, "(w1);(w1);[x0<1:w1|w1];(w1)");
        property(2, 2, "[x0<1:w1|(w1)]");
        property(2, 2, "[x0<1:(w1)|w1];(w1)");
        property(2, 3, "((w1)|((w1))|(w1))");
        property(2, 4, "[x0<1:".repeat(4) + "w1" + "|w1]".repeat(4));
        Check.says("Promise 5", "3 the length of the text");
        property(3, 2, "w0");
        property(3, 79, "x0=100;".repeat(11) + "ta");
        property(3, 80, "x0=100;".repeat(11) + "w12");
    }

    private static void widths() {
        Check.says("Promise 5", "4 the greatest number of items that can run at the same time");
        property(4, 1, "w0");
        property(4, 1, "w1;".repeat(23) + "w1");
        property(4, 2, "w1;(w1|w1);(w1)");
        property(4, 4, "(w1|w1|w1|w1)q1");
        property(4, 16, "((w1|w1|w1|w1)|(w1|w1|w1|w1)|(w1|w1|w1|w1)|(w1|w1|w1|w1))");
        property(4, 4, "((w1;(w1|w1|w1);w1)|w1;w1)");
        Check.says("Promise 5", "where choices and parallels do not count");
        property(4, 1, "((((w1))))");
        property(4, 1, "[x0<1:w1|[x0<1:w1|(w1)]]");
        Check.says("Promise 5", "and the body of a choice that has more counts");
        property(4, 3, "[x0<1:w1|(w1|w1|w1)]");
        property(4, 3, "[x0<1:(w1|w1|w1)|w1]");
        property(4, 5, "([x0<1:(w1|w1)|(w1|w1|w1)]|[x0<1:(w1|w1)|w1])");
        Check.says("In doubt", "An item that takes no time counts like others for the greatest number of items.");
        property(4, 1, "x0=1");
        property(4, 3, "(x0=1|w0|x1=1)");
        property(4, 2, "[x0<1:(x0=1|x0=2)|w9]");
    }
}
