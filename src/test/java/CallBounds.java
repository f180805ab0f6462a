/** The boundary cases of the calls that change an engine: promises 6 to 12, and what 'Errors' says of them. */
final class CallBounds {
    private static final String FIRST = "If several errors apply, the one that is listed first in the @return line is returned.";

    private CallBounds() {
    }

    static void all() {
        duration();
        failures();
        start();
        startOrder();
        signal();
        signalOrder();
        abort();
        remove();
        pass();
        passOrder();
        calls();
    }

    private static void duration() {
        Check.says("Environment", "For each code there is a duration, 0 to 99 minutes, initially 1");
        Check.says("Promise 6", "the code, 0 to 7");
        for (int code = 0; code < 8; code++) {
            Check.same("initially", 1, new WorkflowEngine().count(10 + code));
            Check.same("duration of " + code, 1, new WorkflowEngine().duration(code, 0));
        }
        Check.says("Promise 6", "the duration, 0 to 99");
        WorkflowEngine engine = new WorkflowEngine();
        for (int minutes = 0; minutes <= 99; minutes++) {
            Check.same("duration " + minutes, minutes == 0 ? 1 : minutes - 1, engine.duration(7, minutes));
            Check.same("it is set", minutes, engine.count(17));
        }
        Check.says("Promise 6", "Sets the duration of a code.");
        for (int code = 0; code < 7; code++) {
            Check.same("the other ones are not", 1, engine.count(10 + code));
        }
        Check.same("failures are not", 0, engine.count(27));
        Check.says("Promise 6", "Returns the previous duration");
        Check.same("duration", 99, engine.duration(7, 0));
        Check.same("duration", 0, engine.duration(7, 0));
        Check.same("duration of another code", 1, engine.duration(0, 50));
        Check.says("Promise 6", "NONE if code is invalid");
        for (int code : Scenes.outside(0, 7)) {
            Scenes.refused("duration of " + code, -1, busy -> busy.duration(code, 0));
            Scenes.refused("duration of " + code, -1, busy -> busy.duration(code, 99));
        }
        Check.says("Promise 6", "BAD if minutes is out of range");
        for (int minutes : Scenes.outside(0, 99)) {
            Scenes.refused("duration " + minutes, -2, busy -> busy.duration(0, minutes));
            Scenes.refused("duration " + minutes, -2, busy -> busy.duration(7, minutes));
            Check.says("Errors", FIRST);
            for (int code : Scenes.outside(0, 7)) {
                Scenes.refused("duration of " + code + ", " + minutes, -1, busy -> busy.duration(code, minutes));
            }
        }
    }

    private static void failures() {
        Check.says("Environment", "and a number of failures to come, initially 0");
        Check.says("Promise 7", "the code, 0 to 7");
        for (int code = 0; code < 8; code++) {
            Check.same("initially", 0, new WorkflowEngine().count(20 + code));
            Check.same("failures of " + code, 0, new WorkflowEngine().failures(code, 1));
        }
        Check.says("Promise 7", "the number, 0 to 99");
        WorkflowEngine engine = new WorkflowEngine();
        for (int n = 0; n <= 99; n++) {
            Check.same("failures " + n, Math.max(0, n - 1), engine.failures(7, n));
            Check.same("it is set", n, engine.count(27));
        }
        Check.says("Promise 7", "Sets the number of failures to come of a code.");
        for (int code = 0; code < 7; code++) {
            Check.same("the other ones are not", 0, engine.count(20 + code));
        }
        Check.same("durations are not", 1, engine.count(17));
        Check.says("Promise 7", "Returns the previous number");
        Check.same("failures", 99, engine.failures(7, 0));
        Check.same("failures", 0, engine.failures(7, 3));
        Check.same("it is set, not added", 3, engine.failures(7, 2));
        Check.same("it is set, not added", 2, engine.count(27));
        Check.says("Promise 7", "NONE if code is invalid");
        for (int code : Scenes.outside(0, 7)) {
            Scenes.refused("failures of " + code, -1, busy -> busy.failures(code, 0));
            Scenes.refused("failures of " + code, -1, busy -> busy.failures(code, 99));
        }
        Check.says("Promise 7", "BAD if n is out of range");
        for (int n : Scenes.outside(0, 99)) {
            Scenes.refused("failures " + n, -2, busy -> busy.failures(0, n));
            Scenes.refused("failures " + n, -2, busy -> busy.failures(7, n));
            Check.says("Errors", FIRST);
            for (int code : Scenes.outside(0, 7)) {
                Scenes.refused("failures of " + code + ", " + n, -1, busy -> busy.failures(code, n));
            }
        }
    }

    private static void start() {
        Check.says("Promise 8", "NONE if workflow is invalid");
        for (int workflow : Scenes.outside(0, 3)) {
            Scenes.refused("start " + workflow, -1, busy -> busy.start(workflow));
            Check.same("start " + workflow, -1, new WorkflowEngine().start(workflow));
        }
        Check.says("Promise 8", "STATE if it has no version");
        Scenes.refused("start without a version", -3, busy -> busy.start(Scenes.EMPTY));
        WorkflowEngine engine = new WorkflowEngine();
        for (int workflow = 0; workflow < 4; workflow++) {
            Check.same("start without a version", -3, engine.start(workflow));
            Check.same("define", -101, Check.define(engine, workflow, "t"));
            Check.same("start with a wrong text", -3, engine.start(workflow));
            Check.same("define", 0, Check.define(engine, workflow, "ta"));
            Check.same("start with a version", workflow, engine.start(workflow));
        }
        Check.says("Promise 8", "FULL if there are 6 instances");
        Check.says("Instances", "There are at most 6 instances, numbered from 0.");
        engine = Check.engine("w1");
        for (int i = 0; i < 6; i++) {
            Check.same("start", i, engine.start(0));
        }
        Check.same("a seventh", -4, engine.start(0));
        Check.same("instances", 6, engine.count(1));
        for (int workflow : new int[] {Scenes.TWO, Scenes.ONE, Scenes.ALL}) {
            Scenes.refused("start a seventh", -4, Scenes::crowded, full -> full.start(workflow));
        }
        engine.pass(1);
        Check.same("those that have ended count", -4, engine.start(0));
        Check.same("remove", 1, engine.remove(3));
        Check.same("a place is free", 3, engine.start(0));
        Check.same("no other one", -4, engine.start(0));
        Check.says("Errors", FIRST);
        Scenes.refused("start without a version", -3, Scenes::crowded, full -> full.start(Scenes.EMPTY));
        for (int workflow : Scenes.outside(0, 3)) {
            Scenes.refused("start " + workflow, -1, Scenes::crowded, full -> full.start(workflow));
        }
    }

    private static void startOrder() {
        Check.says("Promise 8", "Returns the number of the instance, the lowest one that is free");
        WorkflowEngine engine = Check.engine("w0");
        for (int i = 0; i < 6; i++) {
            Check.same("start", i, engine.start(0));
        }
        for (int free : new int[] {5, 0, 3}) {
            Check.same("remove", 1, engine.remove(free));
        }
        for (int lowest : new int[] {0, 3, 5, -4}) {
            Check.same("start", lowest, engine.start(0));
        }
        Check.says("Promise 8", "Starts an instance of the latest version of a workflow.");
        engine = Check.engine("sa", "sb");
        Check.same("start", 0, engine.start(0));
        Check.same("define", 2, Check.define(engine, 0, "sc"));
        Check.same("start", 1, engine.start(0));
        Check.same("a wrong one", -100, engine.define(0));
        Check.same("start", 2, engine.start(0));
        for (int i = 0; i < 3; i++) {
            Check.same("version of " + i, Math.min(2, 1 + i), engine.instance(i, 2));
        }
    }

    private static void signal() {
        Check.says("Promise 9", "the code of the signal, 0 to 7");
        for (int code = 0; code < 8; code++) {
            WorkflowEngine engine = Check.started("w9");
            Check.same("signal " + code, 1, engine.signal(0, code));
            for (int other = 0; other < 8; other++) {
                Check.same("pending " + other, other == code ? 1 : 0, engine.instance(0, 20 + other));
            }
        }
        Check.says("Promise 9", "NONE if there is no such instance or code");
        for (int instance : new int[] {-1, Scenes.FREE, 6, Integer.MIN_VALUE, Integer.MAX_VALUE}) {
            Scenes.refused("signal to " + instance, -1, busy -> busy.signal(instance, 0));
        }
        for (int code : Scenes.outside(0, 7)) {
            Scenes.refused("signal " + code, -1, busy -> busy.signal(Scenes.RUNNING, code));
        }
        Check.says("Promise 9", "STATE if it is not running");
        for (int ended : new int[] {Scenes.COMPLETED, Scenes.COMPENSATING, Scenes.COMPENSATED, Scenes.BROKEN}) {
            Scenes.refused("signal to one with status " + ended, -3, busy -> busy.signal(ended, 0));
        }
        Check.says("Promise 9", "Returns the number of its pending signals with this code");
        WorkflowEngine engine = Check.started("w1;sb;w9");
        for (int i = 1; i < 9; i++) {
            Check.same("signal", i, engine.signal(0, 1));
        }
        Check.says("Promise 9", "FULL if it has 9 of them already");
        Check.same("a ninth", 9, engine.signal(0, 1));
        Check.same("a tenth", -4, engine.signal(0, 1));
        Check.same("pending", 9, engine.instance(0, 21));
        Check.same("another code", 1, engine.signal(0, 2));
        engine.pass(1);
        Check.same("one is taken", 8, engine.instance(0, 21));
        Check.same("a ninth again", 9, engine.signal(0, 1));
        Check.same("a tenth again", -4, engine.signal(0, 1));
        Scenes.refused("a tenth", -4, busy -> busy.signal(Scenes.RUNNING, 4));
    }

    private static void signalOrder() {
        Check.says("Errors", FIRST);
        for (int code : Scenes.outside(0, 7)) {
            Scenes.refused("signal " + code + " to one that has ended", -1, busy -> busy.signal(Scenes.BROKEN, code));
            Scenes.refused("signal " + code + " to one that is not", -1, busy -> busy.signal(Scenes.FREE, code));
        }
        Scenes.Scene ended = () -> {
            WorkflowEngine engine = Scenes.busy();
            Check.same("a ninth is there", -4, engine.signal(Scenes.RUNNING, 4));
            engine.abort(Scenes.RUNNING);
            return engine;
        };
        Scenes.refused("a tenth to one that compensates", -3, ended, busy -> busy.signal(Scenes.RUNNING, 4));
        Check.says("Promise 9", "Gives an instance a pending signal.");
        WorkflowEngine engine = Check.started("sa;sa");
        engine.start(0);
        Check.same("signal", 1, engine.signal(0, 0));
        Check.same("of the other one", 0, engine.instance(1, 20));
        Check.says("Promise 9", "A signal item that waits takes it when the instance is looked at next.");
        Check.same("not at once", 1, engine.instance(0, 20));
        Check.same("not at once", 0, engine.running(0, 0));
        Check.same("pass", 1, engine.pass(1));
        Check.same("taken", 0, engine.instance(0, 20));
        Check.same("history", "1:3:0", Check.history(engine, 0));
        Check.same("the next one", 3, engine.running(0, 0));
        Check.same("the other one", 0, engine.running(1, 0));
    }

    private static void abort() {
        Check.says("Promise 10", "NONE if there is no such instance");
        for (int instance : new int[] {-1, Scenes.FREE, 6, Integer.MIN_VALUE, Integer.MAX_VALUE}) {
            Scenes.refused("abort " + instance, -1, busy -> busy.abort(instance));
        }
        Check.says("Promise 10", "STATE if it is not running");
        for (int ended : new int[] {Scenes.COMPLETED, Scenes.COMPENSATING, Scenes.COMPENSATED, Scenes.BROKEN}) {
            Scenes.refused("abort one with status " + ended, -3, busy -> busy.abort(ended));
        }
        Check.says("Promise 10", "Returns its status then");
        Check.same("compensated at once, nothing was done", 3, Check.started("tacb").abort(0));
        Check.same("compensated at once, nothing has a code", 3, aborted("ta;w9", "a0").instance(0, 0));
        Check.same("compensated at once", 3, aborted("tacb;w9", "a0 b0").instance(0, 0));
        Check.same("compensated after two failures", 3, aborted("tacb;w9", "a0 b0!2").instance(0, 0));
        Check.same("broken at once", 4, aborted("tacb;w9", "a0 b0!3").instance(0, 0));
        Check.same("compensating", 2, aborted("tacb;w9", "a0 b1").instance(0, 0));
        Check.says("Promise 10", "everything in it that runs is cancelled, without entries for that");
        WorkflowEngine engine = aborted("(ta;w9|sa,9|(w9|tb)q1|[x0<1:w9|w9])q3", "b9");
        Check.same("history", "0:0:0 0:0:1 0:11:2 0:11:3", Check.history(engine, 0));
        Check.same("nothing runs", 0, engine.running(0, -1));
        Check.same("nothing is due", -5, engine.due(0));
        engine.pass(20);
        Check.same("nothing comes of it", 4, engine.instance(0, 8));
        for (String text : new String[] {"w9", "sa,9", "ta", "tar1+9", "[x0<1:w9|w1]", "((((w9))))", "(w9|w9|w9|w9)q1"}) {
            engine = aborted(text, text.startsWith("tar") ? "a0!1" : "");
            Check.same("nothing of " + text + " runs", 0, engine.running(0, -1));
            Check.same("nothing of " + text + " is due", -5, engine.due(0));
            engine.pass(10);
            Check.same("nothing comes of " + text, 3, engine.instance(0, 0));
            Check.same("nothing comes of " + text, 0, engine.instance(0, 5));
        }
        Check.says("Promise 10", "and it is compensating from now on, and looked at at once");
        engine = aborted("tacb;w9", "a0 b4");
        Check.same("history", "0:0:0 0:2:0 0:11:2 0:5:1", Check.history(engine, 0));
        Check.same("due", 4, engine.due(0));
        engine.pass(4);
        Check.same("ended", 4, engine.instance(0, 4));
    }

    /** An engine with one instance that was aborted in the minute in which it was started. */
    private static WorkflowEngine aborted(String text, String settings) {
        WorkflowEngine engine = Check.engine(text);
        RunTest.settle(engine, settings);
        Check.same("start", 0, engine.start(0));
        Check.same("running", 0, engine.instance(0, 0));
        int status = engine.abort(0);
        Check.same("abort answers its status", engine.instance(0, 0), status);
        return engine;
    }

    private static void remove() {
        Check.says("Promise 11", "NONE if there is no such instance");
        for (int instance : new int[] {-1, Scenes.FREE, 6, Integer.MIN_VALUE, Integer.MAX_VALUE}) {
            Scenes.refused("remove " + instance, -1, busy -> busy.remove(instance));
        }
        Check.says("Promise 11", "STATE if it is running or compensating");
        Scenes.refused("remove a running one", -3, busy -> busy.remove(Scenes.RUNNING));
        Scenes.refused("remove a compensating one", -3, busy -> busy.remove(Scenes.COMPENSATING));
        Check.says("Promise 11", "Returns its status");
        for (int ended : new int[] {Scenes.COMPLETED, Scenes.COMPENSATED, Scenes.BROKEN}) {
            WorkflowEngine engine = Scenes.busy();
            Check.says("Promise 11", "Removes an instance that has ended.");
            Check.same("remove", ended, engine.remove(ended));
            Check.same("instances", 4, engine.count(1));
            for (int what = 0; what < 28; what++) {
                Check.same("instance what " + what, -1, engine.instance(ended, what));
            }
            Check.same("remove again", -1, engine.remove(ended));
            Check.same("signal", -1, engine.signal(ended, 0));
            Check.same("abort", -1, engine.abort(ended));
            Check.same("entry", -1, engine.entry(ended, 0, 0));
            Check.same("running", -1, engine.running(ended, -1));
            Check.same("due", -1, engine.due(ended));
            Check.same("ahead", -1, engine.ahead(ended, 1));
            Check.same("replayed", -1, engine.replayed(ended, 0));
            Check.says("Promise 11", "Its number is free then.");
            Check.same("start", ended, engine.start(Scenes.TWO));
            Check.same("the next free one", Scenes.FREE, engine.start(Scenes.TWO));
        }
    }

    private static void pass() {
        Check.says("Time", "The time is a minute, 0 at first.");
        Check.same("minute", 0, new WorkflowEngine().count(0));
        Check.says("Promise 12", "the number of minutes, 1 to 200");
        Check.same("pass", 1, new WorkflowEngine().pass(1));
        Check.same("pass", 200, new WorkflowEngine().pass(200));
        Check.says("Promise 12", "Returns the present minute");
        WorkflowEngine engine = new WorkflowEngine();
        Check.same("pass", 200, engine.pass(200));
        Check.same("pass", 201, engine.pass(1));
        Check.same("minute", 201, engine.count(0));
        Check.says("Promise 12", "BAD if n is out of range");
        for (int n : Scenes.outside(1, 200)) {
            Scenes.refused("pass " + n, -2, busy -> busy.pass(n));
            Check.same("pass first " + n, -2, new WorkflowEngine().pass(n));
        }
        Check.says("Promise 12", "Lets time pass.");
        engine = Check.started("w199;x0=1;w1;x0=2;w1");
        Check.same("pass", 200, engine.pass(200));
        Check.same("history", "199:8:0 200:8:0", Check.history(engine, 0));
    }

    private static void passOrder() {
        Check.says("Promise 12", "FULL if it would be above 99999");
        Check.same("to the last minute at once", 99999, Scenes.at(99799).pass(200));
        Check.same("to the last minute", 99999, Scenes.at(99998).pass(1));
        Scenes.Scene[] scenes = {() -> Scenes.at(99800), () -> Scenes.at(99998), Scenes::late};
        int[] tooMany = {200, 2, 1};
        for (int i = 0; i < scenes.length; i++) {
            int n = tooMany[i];
            Scenes.refused("pass " + n, -4, scenes[i], engine -> engine.pass(n));
            Scenes.refused("pass 200", -4, scenes[i], engine -> engine.pass(200));
        }
        WorkflowEngine engine = Scenes.at(99800);
        Check.same("pass", -4, engine.pass(200));
        Check.same("no minute of it has passed", 99800, engine.count(0));
        Check.same("fewer", 99999, engine.pass(199));
        Check.same("history", "99805:4:0 99805:11:2 99805:11:3", Check.history(engine, 0));
        Check.says("Errors", FIRST);
        for (int n : Scenes.outside(1, 200)) {
            Scenes.refused("pass " + n, -2, Scenes::late, late -> late.pass(n));
        }
    }

    private static void calls() {
        Check.says("What it is", "An object is used for at most 512 calls after it has been made");
        WorkflowEngine engine = new WorkflowEngine();
        for (int calls = 1; calls <= 499; calls++) {
            Check.same("call " + calls, 200 * calls, engine.pass(200));
        }
        Check.same("call 500", -4, engine.pass(200));
        Check.same("calls 501 to 508", 0, Check.define(engine, 0, "tacb;w1"));
        Check.same("call 509", 0, engine.start(0));
        Check.same("call 510", 1, engine.image());
        Check.same("call 511", 99801, engine.pass(1));
        Check.same("call 512", 99802, engine.due(0));
        // What later calls answer is free, but none of them may throw.
        for (int i = -9; i < 300; i++) {
            engine.feed('t');
            engine.define(i % 5);
            engine.start(i % 5);
            engine.pass(i);
            engine.abort(i % 7);
            engine.remove(i % 7);
            engine.undo();
            engine.image();
            engine.signal(i % 7, i);
        }
    }
}
