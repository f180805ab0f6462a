/** Promises 6 to 12, and what the description says of items, time and compensation, by whole histories. */
public final class RunTest {
    public static void main(String[] args) {
        environment();
        tasks();
        waitsAndSets();
        signals();
        choices();
        parallels();
        compensation();
        givenUp();
        order();
        start();
        signal();
        abort();
        remove();
        pass();
        Check.end();
    }

    private static void environment() {
        WorkflowEngine engine = new WorkflowEngine();
        for (int code = 0; code < 8; code++) {
            Check.same("duration", 1, engine.duration(code, 99 - code));
            Check.same("duration", 99 - code, engine.duration(code, 0));
            Check.same("failures", 0, engine.failures(code, 90 + code));
            Check.same("failures", 90 + code, engine.failures(code, 0));
        }
        for (int value : new int[] {-1, 100, Integer.MIN_VALUE, Integer.MAX_VALUE}) {
            Check.same("duration of " + value, -1, engine.duration(value < 0 ? value : 8, 1));
            Check.same("failures of " + value, -1, engine.failures(value < 0 ? value : 8, 1));
            Check.same("duration " + value, -2, engine.duration(3, value));
            Check.same("failures " + value, -2, engine.failures(3, value));
            Check.same("duration twice wrong", -1, engine.duration(-1, value));
            Check.same("failures twice wrong", -1, engine.failures(8, value));
        }
        Check.same("duration is unchanged", 0, engine.count(13));
        Check.same("failures are unchanged", 0, engine.count(23));
    }

    /** Lets a text run for some minutes, with durations and failures like "a2 b3!1", and looks at its history. */
    static WorkflowEngine run(String text, String settings, int minutes, String history) {
        WorkflowEngine engine = Check.engine(text);
        settle(engine, settings);
        Check.same("start", 0, engine.start(0));
        if (minutes > 0) {
            Check.same("pass", minutes, engine.pass(minutes));
        }
        Check.same(text + " with " + settings, history, Check.history(engine, 0));
        return engine;
    }

    static void settle(WorkflowEngine engine, String settings) {
        for (String setting : settings.isEmpty() ? new String[0] : settings.split(" ")) {
            int code = setting.charAt(0) - 'a';
            String[] numbers = setting.substring(1).split("!");
            engine.duration(code, Integer.parseInt(numbers[0]));
            engine.failures(code, numbers.length < 2 ? 0 : Integer.parseInt(numbers[1]));
        }
    }

    private static void tasks() {
        run("ta;tb", "b2", 3, "0:0:0 1:2:0 1:0:1 3:2:1 3:11:1");
        run("ta;tb", "a0 b0", 0, "0:0:0 0:2:0 0:0:1 0:2:1 0:11:1");
        run("ta", "a1!1", 1, "0:0:0 1:1:0 1:11:2 1:11:3");
        run("tar1", "a1!1", 2, "0:0:0 1:1:0 1:0:0 2:2:0 2:11:1");
        run("tar1", "a1!2", 2, "0:0:0 1:1:0 1:0:0 2:1:0 2:11:2 2:11:3");
        run("tar3+2", "a1!3", 19, "0:0:0 1:1:0 3:0:0 4:1:0 8:0:0 9:1:0 17:0:0 18:2:0 18:11:1");
        run("tar9", "a0!9", 0, "0:0:0 0:1:0 ".repeat(9) + "0:0:0 0:2:0 0:11:1");
        run("tar2+0", "a0!2", 0, "0:0:0 0:1:0 0:0:0 0:1:0 0:0:0 0:2:0 0:11:1");
        WorkflowEngine engine = run("tar9+1", "a0!10", 200, "0:0:0 0:1:0 1:0:0 1:1:0 3:0:0 3:1:0 7:0:0 7:1:0 15:0:0 15:1:0"
            + " 31:0:0 31:1:0 63:0:0 63:1:0 127:0:0 127:1:0");
        Check.same("due", 255, engine.due(0));
        engine.pass(200);
        Check.same("due", 511, engine.due(0));
        engine.pass(111);
        Check.same("r9 is ten attempts", 3, engine.instance(0, 0));
        Check.same("ended", 511, engine.instance(0, 4));
        Check.same("failures", 0, engine.count(20));
        engine = run("tar1", "a5!1", 0, "0:0:0");
        engine.duration(0, 2);
        engine.pass(7);
        Check.same("an attempt lasts as long as the duration is when it begins", "0:0:0 5:1:0 5:0:0 7:2:0 7:11:1",
            Check.history(engine, 0));
    }

    private static void waitsAndSets() {
        run("w0;w2;w0;w3;ta", "a0", 5, "5:0:0 5:2:0 5:11:1");
        WorkflowEngine engine = run("x0=5;x1=-7;x1+2;x2+-999;x3=0;x3=-0", "", 0, "0:8:0 0:8:1 0:8:1 0:8:2 0:8:3 0:8:3 0:11:1");
        Check.same("x0", 5, engine.instance(0, 10));
        Check.same("x1", -5, engine.instance(0, 11));
        Check.same("x2", -999, engine.instance(0, 12));
        Check.same("x3", 0, engine.instance(0, 13));
    }

    private static void signals() {
        run("sa,0", "", 0, "0:4:0 0:11:2 0:11:3");
        run("w2;sc,3", "", 6, "5:4:2 5:11:2 5:11:3");
        run("sa", "", 200, "");
        WorkflowEngine engine = Check.started("sb,3;(sb,0|sb)q1;sb");
        engine.pass(2);
        for (int i = 1; i <= 3; i++) {
            Check.same("signal", i, engine.signal(0, 1));
        }
        Check.same("a signal is taken when the instance is looked at", "", Check.history(engine, 0));
        engine.pass(1);
        Check.same("history", "3:3:1 3:3:1 3:3:1 3:9:2", Check.history(engine, 0));
        Check.same("pending", 0, engine.instance(0, 21));
        Check.same("pending of another code", 1, engine.signal(0, 7));
        engine.pass(1);
        Check.same("another code is not taken", 1, engine.instance(0, 27));
        engine = Check.started("sa,2");
        engine.pass(1);
        engine.signal(0, 0);
        engine.pass(1);
        Check.same("a signal in time", "2:3:0 2:11:1", Check.history(engine, 0));
    }

    private static void choices() {
        run("x0=2;[x0<3:x1=1|x2=1]", "", 0, "0:8:0 0:8:1 0:11:1");
        run("x0=3;[x0<3:x1=1|x2=1]", "", 0, "0:8:0 0:8:2 0:11:1");
        run("[x0<0:x1=1|x2=1];[x0<-1:x1=1|x3=1]", "", 0, "0:8:2 0:8:3 0:11:1");
        run("x0=-5;[x0<-4:ta|tb];tc", "", 2, "0:8:0 0:0:0 1:2:0 1:0:2 2:2:2 2:11:1");
        run("[x0<1:sa,1|w9];tc", "", 3, "1:4:0 1:11:2 1:11:3");
        run("[x0<1:[x1<0:w1|tb;x0=1]|w9];[x0<1:w9|ta]", "", 2, "0:0:1 1:2:1 1:8:0 1:0:0 2:2:0 2:11:1");
    }

    private static void parallels() {
        run("(ta|tb);tc", "b2", 3, "0:0:0 0:0:1 1:2:0 2:2:1 2:9:2 2:0:2 3:2:2 3:11:1");
        run("(ta|tb|tc)q2", "b2 c3", 3, "0:0:0 0:0:1 0:0:2 1:2:0 2:2:1 2:10:2 2:9:2 2:11:1");
        run("(ta|tb|w1)q1", "", 1, "0:0:0 0:0:1 1:2:0 1:2:1 1:9:3 1:11:1");
        run("(x0=1|ta|w0)q1", "", 0, "0:8:0 0:0:0 0:10:1 0:9:2 0:11:1");
        run("(sa,0|ta|w0)", "", 0, "0:4:0 0:0:0 0:10:1 0:11:2 0:11:3");
        run("(sa,1|sb,2|ta|tb)q2", "a3 b3", 3, "0:0:0 0:0:1 1:4:0 2:4:1 3:2:0 3:2:1 3:9:2 3:11:1");
        run("(sa,1|sb,1|ta)q2;w1", "a3", 3, "0:0:0 1:4:0 1:4:1 1:10:2 1:11:2 1:11:3");
        run("((ta|w5)q1|(tb|w5))q1", "b3", 3, "0:0:0 0:0:1 1:2:0 1:10:1 1:9:1 1:10:1 1:9:1 1:11:1");
        run("((w1|sa,0)|w2)q1", "", 2, "0:4:0 0:10:0 2:9:1 2:11:1");
        WorkflowEngine engine = run("(ta|tb)q1", "a2 b1!1", 0, "0:0:0 0:0:1");
        engine.failures(0, 1);
        engine.failures(1, 0);
        engine.pass(5);
        Check.same("a cancelled attempt has no effect", 1, engine.count(20));
    }

    private static void compensation() {
        run("(tacb;w5|tc)q1;td", "a1 b3 c2", 6, "0:0:0 0:0:2 1:2:0 2:2:2 2:10:0 2:5:1 5:6:0 5:9:1 5:0:3 6:2:3 6:11:1");
        WorkflowEngine engine = run("(tacb;w5|tc)q1", "a1 b3!3 c2", 11, "0:0:0 0:0:2 1:2:0 2:2:2 2:10:0 2:5:1 5:5:1 8:5:1 11:7:0"
            + " 11:9:1 11:11:1");
        Check.same("stuck", 1, engine.instance(0, 7));
        Check.same("completed all the same", 1, engine.instance(0, 0));
        run("(tacb;w5|tc)q1", "a1 b0!2 c2", 2, "0:0:0 0:0:2 1:2:0 2:2:2 2:10:0 2:5:1 2:5:1 2:5:1 2:6:0 2:9:1 2:11:1");
        run("(tacb;w5|tc)q1;sa,0", "a1 b0!3 c2", 2, "0:0:0 0:0:2 1:2:0 2:2:2 2:10:0 2:5:1 2:5:1 2:5:1 2:7:0 2:9:1 2:4:0 2:11:2"
            + " 2:11:4");
        run("tace;tb;tccd;sa,0", "d2 e3!1", 11, "0:0:0 1:2:0 1:0:1 2:2:1 2:0:2 3:2:2 3:4:0 3:11:2 3:5:3 5:6:2 5:5:4 8:5:4 11:6:0"
            + " 11:11:3");
        engine = run("tace;tccd;sa,0", "d0!3 e1", 3, "0:0:0 1:2:0 1:0:2 2:2:2 2:4:0 2:11:2 2:5:3 2:5:3 2:5:3 2:7:2 2:5:4 3:6:0"
            + " 3:11:4");
        Check.same("done", 2, engine.instance(0, 5));
        Check.same("compensated", 1, engine.instance(0, 6));
        Check.same("stuck", 1, engine.instance(0, 7));
        run("(tacb|tcca;sa,0|w2)q2;sb,0", "", 4, "0:0:0 0:0:2 1:2:0 1:2:2 1:4:0 2:5:0 3:6:2 3:9:2 3:4:1 3:11:2 3:5:1 4:6:0 4:11:3");
        run("((w1|tacb;w9)q1|tccd;w5)", "d4", 7, "0:0:0 0:0:2 1:2:0 1:10:1 1:5:1 1:2:2 2:6:0 2:9:1 6:9:2 6:11:1");
        engine = run("tacb;w1", "b5", 1, "0:0:0 1:2:0");
        engine.abort(0);
        engine.duration(1, 0);
        engine.pass(4);
        Check.same("status", 2, engine.instance(0, 0));
        engine.pass(1);
        Check.same("ended", 6, engine.instance(0, 4));
    }

    private static void givenUp() {
        run("((tacb;w9|w1)q1|w2)q1", "b3", 5, "0:0:0 1:2:0 1:10:0 1:5:1 2:10:0 2:5:1 5:6:0 5:9:1 5:11:1");
        run("((tacb;tccd;w9|w3)q1|w5)q1", "b1 d2", 7, "0:0:0 1:2:0 1:0:2 2:2:2 3:10:0 3:5:3 5:6:2 5:5:1 5:10:0 5:5:1 6:6:0 6:9:1"
            + " 6:11:1");
        run("((tacb;w9|w1)q1|sa,2)", "b2!1", 6, "0:0:0 1:2:0 1:10:0 1:5:1 2:4:0 2:10:0 2:11:2 2:5:1 4:5:1 6:6:0 6:11:3");
        WorkflowEngine engine = run("(tacb;w9|w1)q1", "b2!3", 4, "0:0:0 1:2:0 1:10:0 1:5:1 3:5:1");
        Check.same("abort", 2, engine.abort(0));
        engine.pass(6);
        // A failure before the abort and two behind it: three in all, but not of one compensation.
        Check.same("the attempts begin anew", "0:0:0 1:2:0 1:10:0 1:5:1 3:5:1 4:11:2 4:5:1 6:5:1 8:5:1 10:6:0 10:11:3",
            Check.history(engine, 0));
        run("((tacb;w9|w1)q1|w8)q1;sa,0", "b1!3", 4, "0:0:0 1:2:0 1:10:0 1:5:1 2:5:1 3:5:1 4:7:0 4:9:1 4:10:1 4:9:1 4:4:0 4:11:2"
            + " 4:11:4");
    }

    /** What comes before what at the same minute. */
    private static void order() {
        run("(ta;tb|tc;w1)q1", "a1 b0 c1", 1, "0:0:0 0:0:2 1:2:0 1:0:1 1:2:1 1:2:2 1:10:1 1:9:1 1:11:1");
        run("(tacd|(tbce;w9|w1)q1;w9|w2)q2", "e9", 11,
            "0:0:0 0:0:1 1:2:0 1:2:1 1:10:0 1:5:4 2:10:1 2:5:4 11:6:1 11:9:2 11:11:1");
        WorkflowEngine engine = Check.engine("tar1");
        for (int i = 0; i < 3; i++) {
            Check.same("start", i, engine.start(0));
        }
        engine.failures(0, 2);
        engine.pass(1);
        Check.same("the first ones meet the failures", 1, engine.instance(2, 0));
        Check.same("running", 0, engine.instance(0, 0));
        Check.same("running", 0, engine.instance(1, 0));
    }

    private static void start() {
        WorkflowEngine engine = Check.engine("sa", "sb");
        Check.same("start -1", -1, engine.start(-1));
        Check.same("start 4", -1, engine.start(4));
        Check.same("start without a version", -3, engine.start(1));
        engine.pass(5);
        for (int i = 0; i < 6; i++) {
            Check.same("start", i, engine.start(0));
        }
        Check.same("start a seventh", -4, engine.start(0));
        Check.same("start without a version", -3, engine.start(1));
        Check.same("start -1", -1, engine.start(-1));
        Check.same("version", 1, engine.instance(0, 2));
        Check.same("started", 5, engine.instance(0, 3));
        engine.abort(4);
        engine.abort(2);
        engine.remove(4);
        engine.remove(2);
        Check.same("define", 2, Check.define(engine, 0, "tc"));
        Check.same("the lowest one that is free", 2, engine.start(0));
        Check.same("its version", 2, engine.instance(2, 2));
        Check.same("the version of another one", 1, engine.instance(3, 2));
        Check.same("the next free one", 4, engine.start(0));
    }

    private static void signal() {
        WorkflowEngine engine = Check.started("sa;tb");
        for (int i = 1; i <= 9; i++) {
            Check.same("signal", i, engine.signal(0, 2));
        }
        Check.same("a tenth", -4, engine.signal(0, 2));
        Check.same("pending", 9, engine.instance(0, 22));
        for (int none : new int[] {-1, 6, Integer.MIN_VALUE, Integer.MAX_VALUE}) {
            Check.same("signal to " + none, -1, engine.signal(none, 0));
        }
        for (int code : new int[] {-1, 8, Integer.MIN_VALUE, Integer.MAX_VALUE}) {
            Check.same("signal " + code, -1, engine.signal(0, code));
        }
        Check.same("signal to none", -1, engine.signal(1, 0));
        engine.abort(0);
        Check.same("signal to an aborted one", -3, engine.signal(0, 2));
        Check.same("signal without a code", -1, engine.signal(0, 8));
    }

    private static void abort() {
        WorkflowEngine engine = Check.started("tace;(tbcf|w9;td)");
        engine.duration(4, 2);
        engine.pass(2);
        Check.same("abort", 2, engine.abort(0));
        Check.same("history", "0:0:0 1:2:0 1:0:1 2:2:1 2:11:2 2:5:5", Check.history(engine, 0));
        Check.same("abort again", -3, engine.abort(0));
        engine.pass(3);
        Check.same("history", "0:0:0 1:2:0 1:0:1 2:2:1 2:11:2 2:5:5 3:6:1 3:5:4 5:6:0 5:11:3", Check.history(engine, 0));
        Check.same("abort one that has ended", -3, engine.abort(0));
        for (int none : new int[] {-1, 1, 6, Integer.MIN_VALUE, Integer.MAX_VALUE}) {
            Check.same("abort " + none, -1, engine.abort(none));
        }
        engine = Check.started("(w5|w6)");
        Check.same("abort with nothing done", 3, engine.abort(0));
        Check.same("no entries for what is cancelled", "0:11:2 0:11:3", Check.history(engine, 0));
        engine = Check.engine("tacb;w9");
        settle(engine, "a0 b0!3");
        engine.start(0);
        Check.same("abort and stuck at once", 4, engine.abort(0));
    }

    private static void remove() {
        WorkflowEngine engine = Check.engine("tacb;sa,3");
        settle(engine, "b1!3");
        engine.start(0);
        Check.same("remove a running one", -3, engine.remove(0));
        engine.pass(4);
        Check.same("remove a compensating one", -3, engine.remove(0));
        engine.pass(3);
        Check.same("remove a broken one", 4, engine.remove(0));
        Check.same("remove again", -1, engine.remove(0));
        Check.same("it is gone", -1, engine.instance(0, 0));
        Check.same("it is gone", -1, engine.entry(0, 0, 0));
        engine.start(0);
        Check.same("its number begins anew", "7:0:0", Check.history(engine, 0));
        engine.abort(0);
        Check.same("remove a compensated one", 3, engine.remove(0));
        begunAnew();
        Check.define(engine, 0, "w0");
        engine.start(0);
        Check.same("remove a completed one", 1, engine.remove(0));
        for (int none : new int[] {-1, 6, Integer.MIN_VALUE, Integer.MAX_VALUE}) {
            Check.same("remove " + none, -1, engine.remove(none));
        }
    }

    /** Nothing of a removed instance is left in the next one with its number. */
    private static void begunAnew() {
        WorkflowEngine engine = Check.engine("x0=1;x3=5;(tar1cb|w1)q1;[x0<1:w9|tar2ce];sd");
        settle(engine, "a1!2 b1 e1!3");
        engine.start(0);
        engine.signal(0, 6);
        engine.pass(6);
        engine.abort(0);
        engine.pass(6);
        Check.same("broken", 4, engine.instance(0, 0));
        Check.same("variable", 5, engine.instance(0, 13));
        Check.same("remove", 4, engine.remove(0));
        Check.define(engine, 0, "[x0<1:tar1|w1];sg");
        engine.failures(0, 1);
        Check.same("start", 0, engine.start(0));
        int[] due = {0, 0, 1, 12, -5, 0, 0, 0, 1};
        for (int what = 0; what < due.length; what++) {
            Check.same("instance 0 " + what, due[what], engine.instance(0, what));
        }
        for (int i = 0; i < 8; i++) {
            Check.same("variable", 0, engine.instance(0, 10 + i % 4));
            Check.same("pending", 0, engine.instance(0, 20 + i));
        }
        Check.same("running", "6", Check.running(engine, 0));
        engine.pass(2);
        Check.same("history", "12:0:0 13:1:0 13:0:0 14:2:0", Check.history(engine, 0));
        Check.same("abort", 3, engine.abort(0));
    }

    private static void pass() {
        WorkflowEngine engine = Check.started("w1;w200;x0=1");
        for (int n : new int[] {0, -1, 201, Integer.MIN_VALUE, Integer.MAX_VALUE}) {
            Check.same("pass " + n, -2, engine.pass(n));
        }
        Check.same("pass", 200, engine.pass(200));
        Check.same("still running", 0, engine.instance(0, 0));
        Check.same("pass", 201, engine.pass(1));
        Check.same("ended", 201, engine.instance(0, 4));
        for (int i = 0; i < 498; i++) {
            engine.pass(200);
        }
        Check.same("minute", 99801, engine.count(0));
        Check.same("pass above the last minute", -4, engine.pass(199));
        Check.same("pass wrong", -2, engine.pass(201));
        Check.same("pass to the last minute", 99999, engine.pass(198));
        Check.same("pass above the last minute", -4, engine.pass(1));
        Check.same("minute", 99999, engine.count(0));
    }
}
