/** Promises 2 to 5: feed, define, wrong, version. */
public final class TextTest {
    private static final int FORM = 1, LIMIT = 2;

    public static void main(String[] args) {
        feed();
        defineNumbers();
        form();
        limits();
        wrong();
        properties();
        widths();
        Check.end();
    }

    private static void feed() {
        WorkflowEngine engine = new WorkflowEngine();
        for (int sign : new int[] {-1, 128, 1000, Integer.MIN_VALUE, Integer.MAX_VALUE}) {
            Check.same("feed " + sign, -2, engine.feed(sign));
        }
        Check.same("feed 0", 1, engine.feed(0));
        Check.same("feed 127", 2, engine.feed(127));
        for (int i = 3; i <= 80; i++) {
            Check.same("feed", i, engine.feed('w'));
        }
        Check.same("feed to a full tape", -4, engine.feed('w'));
        Check.same("feed wrong to a full tape", -2, engine.feed(128));
        Check.same("count 4", 80, engine.count(4));
    }

    private static void defineNumbers() {
        WorkflowEngine engine = new WorkflowEngine();
        for (int i = 0; i < 4; i++) {
            Check.same("define 3", i, Check.define(engine, 3, "w" + i));
            Check.same("tape", 0, engine.count(4));
            Check.same("versions", i + 1, engine.count(5));
        }
        Check.same("define a fifth version", -4, Check.define(engine, 3, "tac"));
        Check.same("the tape stays", 3, engine.count(4));
        Check.same("define -1", -1, engine.define(-1));
        Check.same("define 4", -1, engine.define(4));
        Check.same("the tape stays", 3, engine.count(4));
        Check.same("define wrong", -103, engine.define(0));
        Check.same("the tape is emptied", 0, engine.count(4));
        Check.same("define nothing", -100, engine.define(0));
        Check.same("a wrong text makes no version", -1, engine.version(0, -1, 0));
        Check.same("versions", 4, engine.count(5));
        Check.same("define after a wrong text", 0, Check.define(engine, 0, "w1"));
    }

    static void right(String text) {
        WorkflowEngine engine = new WorkflowEngine();
        Check.same("define " + text, 0, Check.define(engine, 0, text));
        Check.same("wrong 0 after " + text, -5, engine.wrong(0));
        Check.same("wrong 1 after " + text, -5, engine.wrong(1));
    }

    static void wrong(String text, int place, int reason) {
        WorkflowEngine engine = new WorkflowEngine();
        Check.same("define " + text, -100 - place, Check.define(engine, 0, text));
        Check.same("wrong 0 after " + text, place, engine.wrong(0));
        Check.same("wrong 1 after " + text, reason, engine.wrong(1));
    }

    private static void form() {
        for (String text : new String[] {"ta", "th", "tar0", "tar9", "tar0+0", "tbr3+999", "tccc", "tdr1+10ch", "w0", "w999",
            "sa", "sh,0", "sb,120", "x0=0", "x3=-0", "x1+5", "x2+-999", "[x0<0:w1|w2]", "[x3<-12:ta;tb|tc;td]", "(w1)",
            "(w1)q1", "(w1|w2|w3|w4)q4", "((((w1))))", "([x0<1:(w1)q1|[x1<2:w1|w2]])", "w1;w2;w3"}) {
            right(text);
        }
        wrong("", 0, FORM);
        for (String text : new String[] {"t", "ta;", "tar", "tar1+", "tac", "tar1c", "w", "s", "sa,", "x", "x0", "x0=", "x0=-",
            "x0+", "[", "[x", "[x1", "[x1<", "[x1<-", "[x1<3", "[x1<3:", "[x1<3:w1", "[x1<3:w1|", "[x1<3:w1|w2", "(",
            "(w1", "(w1|", "(w1|w2", "(w1)q", "((w1)"}) {
            wrong(text, text.length(), FORM);
        }
        wrong("ti", 1, FORM);
        wrong("t0", 1, FORM);
        wrong("Ta", 0, FORM);
        wrong(" ta", 0, FORM);
        wrong("ta ", 2, FORM);
        wrong("ta+1", 2, FORM);
        wrong("tar12", 4, FORM);
        wrong("tara", 3, FORM);
        wrong("tar1+01", 6, FORM);
        wrong("tar1+1000", 8, FORM);
        wrong("tacbr1", 4, FORM);
        wrong("taci", 3, FORM);
        wrong("tacbcb", 4, FORM);
        wrong("w-1", 1, FORM);
        wrong("w00", 2, FORM);
        wrong("w1234", 4, FORM);
        wrong("wa", 1, FORM);
        wrong("si", 1, FORM);
        wrong("sa,-1", 3, FORM);
        wrong("sa1", 2, FORM);
        wrong("x4=1", 1, FORM);
        wrong("xa=1", 1, FORM);
        wrong("x0-1", 2, FORM);
        wrong("x0=--1", 4, FORM);
        wrong("x0=01", 4, FORM);
        wrong("[y0<1:w1|w1]", 1, FORM);
        wrong("[x4<1:w1|w1]", 2, FORM);
        wrong("[x0=1:w1|w1]", 3, FORM);
        wrong("[x0<1;w1|w1]", 5, FORM);
        wrong("[x0<1:w1;w1]", 11, FORM);
        wrong("[x0<1:|w1]", 6, FORM);
        wrong("[x0<1:w1|w1|w1]", 11, FORM);
        wrong("[x0<1:w1|w1)", 11, FORM);
        wrong("[x0<1:w1|w1]q1", 12, FORM);
        wrong("()", 1, FORM);
        wrong("(w1]", 3, FORM);
        wrong("(w1||w1)", 4, FORM);
        wrong("(w1|w1)q0", 8, FORM);
        wrong("(w1|w1)q3", 8, FORM);
        wrong("(w1)q11", 6, FORM);
        wrong("(w1)w1", 4, FORM);
        wrong("w1|w1", 2, FORM);
        wrong("w1)", 2, FORM);
        wrong("w1]", 2, FORM);
        wrong(";w1", 0, FORM);
        wrong("w1;;w1", 3, FORM);
    }

    private static void limits() {
        String items = "w1;".repeat(23);
        right(items + "w1");
        wrong(items + "w1;", 72, FORM);
        wrong(items + "w1;w1", 72, LIMIT);
        wrong(items + "w1;(", 72, LIMIT);
        wrong(items + "w1;[", 72, LIMIT);
        wrong(items + "w1;t", 72, LIMIT);
        wrong(items + "w1;q", 72, FORM);
        wrong(items + "w1;)", 72, FORM);
        wrong(items + "(w1", 70, LIMIT);
        wrong(items + "(q1", 70, FORM);
        wrong(items + "[x0<1:w", 75, LIMIT);
        right("((((w1))));((((w1))))");
        wrong("(((((w1)))))", 4, LIMIT);
        wrong("(((([", 4, LIMIT);
        wrong("((((q", 4, FORM);
        wrong("((((", 4, FORM);
        wrong("[x0<1:[x0<1:[x0<1:[x0<1:w1;[x0<1:w1|", 27, LIMIT);
        wrong("[x0<1:(w1;[x0<1:w1|(w1;(", 23, LIMIT);
        right("(w1|w1|w1|w1)");
        wrong("(w1|w1|w1|w1|w1)", 13, LIMIT);
        wrong("(w1|w1|w1|w1|(", 13, LIMIT);
        wrong("(w1|w1|w1|w1|t", 13, LIMIT);
        wrong("(w1|w1|w1|w1|q", 13, FORM);
        wrong("(w1|w1|w1|w1|)", 13, FORM);
        wrong("(w1|w1|w1|w1|", 13, FORM);
        wrong("(w1|w1|w1|w1)q5", 14, FORM);
    }

    private static void wrong() {
        WorkflowEngine engine = new WorkflowEngine();
        for (int what : new int[] {-1, 2, 100, Integer.MIN_VALUE, Integer.MAX_VALUE}) {
            Check.same("wrong " + what, -1, engine.wrong(what));
        }
        Check.same("wrong before any text", -5, engine.wrong(1));
        Check.same("define", -101, Check.define(engine, 0, "ti"));
        Check.same("a workflow that there is not reads nothing", -1, Check.define(engine, 9, "ta"));
        Check.same("wrong 0", 1, engine.wrong(0));
        Check.same("wrong 1", 1, engine.wrong(1));
        Check.same("wrong 2", -1, engine.wrong(2));
        Check.same("define", 0, engine.define(0));
        Check.same("wrong after a right text", -5, engine.wrong(0));
    }

    private static void properties() {
        WorkflowEngine engine = Check.engine("ta", "(tb|[x0<1:tc;w1|((td))])q1;x0=1;sa", "w1");
        Check.same("items", 1, engine.version(0, 0, 0));
        Check.same("items", 10, engine.version(0, 1, 0));
        Check.same("tasks", 3, engine.version(0, 1, 1));
        Check.same("depth", 4, engine.version(0, 1, 2));
        Check.same("length", 34, engine.version(0, 1, 3));
        Check.same("width", 2, engine.version(0, 1, 4));
        Check.same("the latest one", 0, engine.version(0, -1, 1));
        Check.same("the latest one", 2, engine.version(0, -1, 3));
        for (int version : new int[] {-2, 4, 5, Integer.MIN_VALUE, Integer.MAX_VALUE}) {
            Check.same("version " + version, -1, engine.version(0, version, 0));
        }
        Check.same("a wrong text in the place of the next version", -123, Check.define(engine, 0, "(ta|[x1<2:sa,9|(tar9)])r"));
        Check.same("the next version", 3, Check.define(engine, 0, "(tb;tc|sb|w1)"));
        int[] due = {5, 2, 1, 13, 3};
        for (int what = 0; what < due.length; what++) {
            Check.same("version what " + what, due[what], engine.version(0, 3, what));
        }
        engine.start(0);
        engine.failures(1, 1);
        engine.pass(1);
        Check.same("nothing of the wrong text is left", "0:0:1 1:1:1 1:10:1 1:11:2 1:11:3", Check.history(engine, 0));
        for (int workflow : new int[] {-1, 1, 4, Integer.MIN_VALUE, Integer.MAX_VALUE}) {
            Check.same("version of " + workflow, -1, engine.version(workflow, 0, 0));
            Check.same("version of " + workflow, -1, engine.version(workflow, -1, 0));
        }
        for (int what : new int[] {-1, 5, Integer.MIN_VALUE, Integer.MAX_VALUE}) {
            Check.same("version what " + what, -1, engine.version(0, 0, what));
        }
    }

    private static void width(String text, int width, int depth) {
        WorkflowEngine engine = Check.engine(text);
        Check.same("width of " + text, width, engine.version(0, 0, 4));
        Check.same("depth of " + text, depth, engine.version(0, 0, 2));
    }

    private static void widths() {
        width("x0=1;x0=2", 1, 0);
        width("(x0=1|x0=2)", 2, 1);
        width("(ta)", 1, 1);
        width("ta;(tb|tc);(td|te|tf)q1;tg", 3, 1);
        width("[x0<1:(ta|tb)|(ta|tb|tc)]", 3, 2);
        width("[x0<1:(ta|tb|tc)|(ta|tb)]", 3, 2);
        width("(ta;(tb|tc);td|[x0<1:ta|(tb|tc|td|te)]|sa)q1", 7, 3);
        width("((w1|w1|w1|w1)|(w1|w1|w1|w1)|(w1|w1|w1|w1))", 12, 2);
        width("(w1);((w1));(((w1)))", 1, 3);
    }
}
