/** The boundary cases of the questions and the snapshot: promises 13 to 22, 'Statistics', 'Snapshot', 'Errors'. */
final class QuestionBounds {
    private static final int[] NO_INSTANCE = {-1, Scenes.FREE, 6, Integer.MIN_VALUE, Integer.MAX_VALUE};
    private static final String FIRST = "If several errors apply, the one that is listed first in the @return line is returned.";

    private QuestionBounds() {
    }

    static void all() {
        instance();
        instanceProperties();
        instanceCounts();
        entry();
        running();
        runningOrder();
        due();
        dueKinds();
        ahead();
        aheadOfAll();
        replayed();
        replayedKinds();
        statistic();
        floats();
        image();
        snapshot();
        count();
        counts();
        errors();
    }

    private static void instance() {
        Check.says("Promise 13", "NONE if there is no such instance or what is invalid");
        for (int instance : NO_INSTANCE) {
            for (int what : new int[] {0, 8, 10, 27, -1}) {
                Scenes.asked("instance " + instance + " " + what, -1, busy -> busy.instance(instance, what));
            }
        }
        for (int what : new int[] {-1, 9, 14, 19, 28, Integer.MIN_VALUE, Integer.MIN_VALUE + 9, Integer.MAX_VALUE}) {
            for (int instance : new int[] {Scenes.RUNNING, Scenes.BROKEN}) {
                Scenes.asked("instance what " + what, -1, busy -> busy.instance(instance, what));
            }
        }
        Check.says("Promise 13", "Returns the property");
        int[] running = {0, Scenes.ONE, 0, 0, -5, 2, 0, 0, 4};
        int[] broken = {4, Scenes.TWO, 1, 0, 9, 1, 0, 1, 8};
        for (int what = 0; what <= 8; what++) {
            int property = what;
            Scenes.asked("instance what " + what, running[what], busy -> busy.instance(Scenes.RUNNING, property));
            Scenes.asked("instance what " + what, broken[what], busy -> busy.instance(Scenes.BROKEN, property));
        }
        Check.same("the last instance", 0, Scenes.crowded().instance(5, 0));
        Check.same("the last instance", 12, Scenes.crowded().instance(5, 3));
    }

    private static void instanceProperties() {
        Check.says("Promise 13", "Returns a property of an instance.");
        WorkflowEngine engine = Scenes.busy();
        Check.says("Promise 13", "0 the status");
        for (int status = 0; status <= 4; status++) {
            Check.same("status", status, engine.instance(status, 0));
        }
        Check.says("Promise 13", "1 the workflow");
        Check.says("Promise 13", "2 the version");
        engine = new WorkflowEngine();
        for (int workflow = 0; workflow < 4; workflow++) {
            for (int version = 0; version < 4; version++) {
                Check.define(engine, workflow, "w0");
                Check.same("start", 0, engine.start(workflow));
                Check.same("workflow", workflow, engine.instance(0, 1));
                Check.same("version", version, engine.instance(0, 2));
                engine.remove(0);
            }
        }
        Check.says("Promise 13", "3 the minute at which it was started");
        Check.says("Promise 13", "4 the minute at which it ended, -5 if it has not");
        engine = Check.engine("w1");
        engine.start(0);
        Check.same("started", 0, engine.instance(0, 3));
        Check.same("not ended", -5, engine.instance(0, 4));
        engine.pass(1);
        Check.same("ended", 1, engine.instance(0, 4));
        engine.start(0);
        engine.abort(1);
        Check.same("started", 1, engine.instance(1, 3));
        Check.same("ended in the same minute", 1, engine.instance(1, 4));
        Check.define(engine, 0, "tacb;w9");
        engine.start(0);
        engine.pass(1);
        engine.abort(2);
        Check.same("compensating", -5, engine.instance(2, 4));
        engine.pass(1);
        Check.same("compensated", 3, engine.instance(2, 4));
        Check.same("it stays", 1, engine.instance(1, 4));
        Check.same("ended in the first minute", 0, RunTest.run("w0", "", 0, "0:11:1").instance(0, 4));
        engine = Scenes.late();
        engine.abort(0);
        Check.same("started in the last minute", 99999, engine.instance(0, 3));
        Check.same("ended in the last minute", 99999, engine.instance(0, 4));
    }

    private static void instanceCounts() {
        Check.says("Promise 13", "5 the tasks that were done");
        Check.says("Promise 13", "6 those compensated");
        Check.says("Promise 13", "7 those stuck");
        WorkflowEngine engine = Check.engine("ta;".repeat(23) + "ta");
        RunTest.settle(engine, "a0");
        engine.start(0);
        Check.same("the most tasks", 24, engine.instance(0, 5));
        Check.define(engine, 0, "ta;tb;tccd;(tecf;w9|w0)q1;tgch;w9");
        RunTest.settle(engine, "a0 b0 c0 e0 f0!3 g0 h1 d2");
        engine.start(0);
        int[][] due = {{5, 0, 1}, {5, 0, 1}, {5, 1, 1}, {5, 1, 1}, {5, 2, 1}};
        for (int minute = 0; minute < due.length; minute++) {
            if (minute == 1) {
                engine.abort(1);
            }
            for (int what = 5; what <= 7; what++) {
                Check.same("instance what " + what + " at step " + minute, due[minute][what - 5], engine.instance(1, what));
            }
            if (minute > 0) {
                engine.pass(1);
            }
        }
        Check.same("broken", 4, engine.instance(1, 0));
        Check.says("Promise 13", "10 + v the variable v");
        engine = Check.started("x0=1;x1=-22;x2=333;x3=-4");
        int[] variables = {1, -22, 333, -4};
        for (int variable = 0; variable < 4; variable++) {
            Check.same("variable " + variable, variables[variable], engine.instance(0, 10 + variable));
        }
        Check.says("Promise 13", "20 + c the pending signals with the code c");
        engine = Check.started("w9");
        for (int code = 0; code < 8; code++) {
            for (int i = 0; i <= code; i++) {
                engine.signal(0, code);
            }
        }
        engine.signal(0, 7);
        for (int code = 0; code < 8; code++) {
            Check.same("pending " + code, code < 7 ? code + 1 : 9, engine.instance(0, 20 + code));
        }
        engine.abort(0);
        Check.same("pending still", 9, engine.instance(0, 27));
    }

    private static void entry() {
        Check.says("Promise 14", "the index of the entry, from 0");
        Check.says("Promise 14", "0 the minute, 1 the kind, 2 the value");
        WorkflowEngine engine = RunTest.run("w3;tg;x3=1", "", 4, "3:0:6 4:2:6 4:8:3 4:11:1");
        int[][] due = {{3, 0, 6}, {4, 2, 6}, {4, 8, 3}, {4, 11, 1}};
        Check.says("Promise 14", "Returns a number of an entry of a history.");
        Check.says("Promise 14", "Returns the number");
        for (int i = 0; i < due.length; i++) {
            for (int what = 0; what < 3; what++) {
                Check.same("entry " + i + " " + what, due[i][what], engine.entry(0, i, what));
            }
        }
        Check.says("Promise 14", "NONE if there is no such instance or kept entry or what is invalid");
        Scenes.asked("the last entry", 2, busy -> busy.entry(Scenes.RUNNING, 3, 1));
        for (int i : new int[] {-1, 4, 5, 199, 200, 201, Integer.MIN_VALUE, Integer.MAX_VALUE}) {
            for (int what = -1; what <= 3; what++) {
                int number = what;
                Scenes.asked("entry " + i + " " + what, -1, busy -> busy.entry(Scenes.RUNNING, i, number));
            }
        }
        for (int what : Scenes.outside(0, 2)) {
            Scenes.asked("entry what " + what, -1, busy -> busy.entry(Scenes.RUNNING, 0, what));
            Scenes.asked("entry what " + what, -1, busy -> busy.entry(Scenes.BROKEN, 7, what));
        }
        for (int instance : NO_INSTANCE) {
            Scenes.asked("entry of " + instance, -1, busy -> busy.entry(instance, 0, 0));
        }
        Check.same("no entry yet", -1, Check.started("w1").entry(0, 0, 0));
    }

    private static void running() {
        Check.says("Promise 15", "the index, from 0, in the order of the text, or -1 for their number");
        int[] places = {10, 14, 26, 30};
        Scenes.asked("their number", places.length, busy -> busy.running(Scenes.RUNNING, -1));
        for (int i = 0; i < places.length; i++) {
            int index = i;
            Scenes.asked("running " + i, places[i], busy -> busy.running(Scenes.RUNNING, index));
        }
        Check.says("Promise 15", "NONE if there is no such instance or index");
        for (int i : new int[] {-2, places.length, 24, Integer.MIN_VALUE, Integer.MAX_VALUE}) {
            Scenes.asked("running " + i, -1, busy -> busy.running(Scenes.RUNNING, i));
        }
        for (int instance : NO_INSTANCE) {
            Scenes.asked("running in " + instance, -1, busy -> busy.running(instance, 0));
            Scenes.asked("their number in " + instance, -1, busy -> busy.running(instance, -1));
        }
        Check.says("In doubt", "nothing runs in an instance that compensates.");
        for (int status = Scenes.COMPLETED; status <= Scenes.BROKEN; status++) {
            int instance = status;
            Scenes.asked("their number in one with status " + status, 0, busy -> busy.running(instance, -1));
            Scenes.asked("running in one with status " + status, -1, busy -> busy.running(instance, 0));
        }
        WorkflowEngine engine = Check.engine("((w1|w1|w1|w1)|(w1|w1|w1|w1)|(w1|w1|w1|w1)|(w1|w1|w1|w1))");
        engine.start(0);
        Check.same("as many as can run", 16, engine.running(0, -1));
        Check.same("the last of them", 53, engine.running(0, 15));
        Check.same("behind the last", -1, engine.running(0, 16));
    }

    private static void runningOrder() {
        Check.says("Promise 15", "Returns the index of its first byte in the text of the version, or the number");
        Check.same("the first byte", 0, Check.started("ta").running(0, 0));
        Check.same("the greatest index", 78, Check.started("x0=100;".repeat(10) + "x0=1;w0;w9").running(0, 0));
        Check.says("Promise 15", "in the order of the text");
        WorkflowEngine engine = Check.started("(w1;w2;w9|w9|w2;w9)");
        Check.same("running", "1 10 13", Check.running(engine, 0));
        engine.pass(2);
        Check.same("running", "4 10 16", Check.running(engine, 0));
        engine.pass(1);
        Check.same("the one that began last comes first", "7 10 16", Check.running(engine, 0));
        Check.says("Promise 15", "Returns a task, wait or signal that is running in an instance.");
        engine = Check.started("([x0<1:(ta|w2)|w9]|sa,3|x1=1)");
        Check.same("no choice, no parallel, no set", "8 11 19", Check.running(engine, 0));
        Check.says("In doubt", "A task between two attempts runs");
        engine = RunTest.run("(tar1+5|w9)", "a1!1", 1, "0:0:0 1:1:0");
        Check.same("between two attempts", "1 8", Check.running(engine, 0));
        engine = RunTest.run("(tacb;w9|w1)q1;w9", "b3", 1, "0:0:0 1:2:0 1:10:0 1:5:1");
        Check.same("a compensation of a parallel is no item", "", Check.running(engine, 0));
        engine.pass(3);
        Check.same("the next item", "15", Check.running(engine, 0));
    }

    private static void due() {
        Check.says("Promise 16", "NONE if there is no such instance");
        for (int instance : NO_INSTANCE) {
            Scenes.asked("due " + instance, -1, busy -> busy.due(instance));
            Check.same("due " + instance, -1, new WorkflowEngine().due(instance));
        }
        Check.says("Promise 16", "Returns the minute, greater than the present one, or -5 if there is none");
        Scenes.asked("due", 30, busy -> busy.due(Scenes.RUNNING));
        Scenes.asked("due of one that compensates", 17, busy -> busy.due(Scenes.COMPENSATING));
        for (int ended : new int[] {Scenes.COMPLETED, Scenes.COMPENSATED, Scenes.BROKEN}) {
            Scenes.asked("due of one with status " + ended, -5, busy -> busy.due(ended));
        }
        WorkflowEngine engine = Check.started("w1;w0;w2;sa");
        for (int minute = 0; minute < 3; minute++) {
            Check.same("due at " + minute, minute < 1 ? 1 : 3, engine.due(0));
            engine.pass(1);
        }
        Check.same("a signal without minutes", -5, engine.due(0));
        Check.same("beyond the last minute", 100004, Scenes.late().due(0));
        Check.same("the last minute", 99999, Scenes.at(99994).due(0));
        Check.says("In doubt", "A pending signal does not count for due().");
        engine.signal(0, 0);
        Check.same("a pending signal", -5, engine.due(0));
        engine = Check.started("sa,5");
        engine.signal(0, 0);
        Check.same("a pending signal", 5, engine.due(0));
    }

    private static void dueKinds() {
        Check.says("Promise 16", "an attempt begins or ends, a wait is done, or the minutes of a signal have passed.");
        Check.same("an attempt ends", 1, RunTest.run("ta", "", 0, "0:0:0").due(0));
        Check.same("an attempt ends", 99, RunTest.run("ta", "a99", 98, "0:0:0").due(0));
        Check.same("an attempt begins", 4, RunTest.run("tar1+3", "a1!1", 1, "0:0:0 1:1:0").due(0));
        Check.same("an attempt begins", 4, RunTest.run("tar1+3", "a1!1", 3, "0:0:0 1:1:0").due(0));
        Check.same("it ends", 5, RunTest.run("tar1+3", "a1!1", 4, "0:0:0 1:1:0 4:0:0").due(0));
        Check.same("a wait is done", 999, RunTest.run("w999", "", 0, "").due(0));
        Check.same("the minutes of a signal", 999, RunTest.run("sa,999", "", 200, "").due(0));
        Check.same("an attempt of a compensation", 4, RunTest.run("tacb;sa,0", "b3", 1, "0:0:0 1:2:0 1:4:0 1:11:2 1:5:1").due(0));
        Check.same("one of a parallel's", 4, RunTest.run("(tacb;w9|w1)q1", "b3", 1, "0:0:0 1:2:0 1:10:0 1:5:1").due(0));
        Check.says("Promise 16", "Returns the next minute at which something happens in an instance by itself");
        WorkflowEngine engine = Check.started("(w4|sa,3|tar1+4|[x0<1:w5|w1])");
        engine.failures(0, 1);
        int[] due = {1, 3, 3};
        for (int minute = 0; minute < due.length; minute++) {
            Check.same("the least of all at " + minute, due[minute], engine.due(0));
            engine.pass(1);
        }
        Check.same("it failed at 3, and nothing more is due", -5, engine.due(0));
        Check.same("status", 3, engine.instance(0, 0));
    }

    private static void ahead() {
        Check.says("Promise 17", "NONE if there is no such instance");
        for (int instance : NO_INSTANCE) {
            Scenes.asked("ahead of " + instance, -1, busy -> busy.ahead(instance, 1));
            Check.says("Errors", FIRST);
            for (int n : Scenes.outside(1, 200)) {
                Scenes.asked("ahead of " + instance + ", " + n, -1, busy -> busy.ahead(instance, n));
            }
        }
        Check.says("Promise 17", "BAD if n is out of range");
        for (int n : Scenes.outside(1, 200)) {
            for (int instance = 0; instance < Scenes.FREE; instance++) {
                int number = instance;
                Scenes.asked("ahead of " + instance + ", " + n, -2, busy -> busy.ahead(number, n));
            }
        }
        Check.says("Promise 17", "the number of minutes, 1 to 200");
        WorkflowEngine engine = Check.started("w1");
        Check.define(engine, 0, "w200");
        engine.start(0);
        Check.define(engine, 0, "w201");
        engine.start(0);
        Check.same("the least number", 1, engine.ahead(0, 1));
        Check.same("the greatest number", 1, engine.ahead(1, 200));
        Check.same("one minute less", 0, engine.ahead(1, 199));
        Check.same("one minute more", 0, engine.ahead(2, 200));
        Check.says("Promise 17", "Returns the status that an instance would have after some minutes if no call changed anything.");
        Check.says("Promise 17", "Returns the status");
        for (int status = 0; status <= 4; status++) {
            int instance = status;
            Scenes.asked("ahead of one with status " + status, status, busy -> busy.ahead(instance, 1));
        }
        Scenes.asked("a minute before it is compensated", 2, busy -> busy.ahead(Scenes.COMPENSATING, 4));
        Scenes.asked("it is compensated", 3, busy -> busy.ahead(Scenes.COMPENSATING, 5));
        Scenes.asked("before a task fails", 0, busy -> busy.ahead(Scenes.RUNNING, 49));
        Scenes.asked("a task fails", 2, busy -> busy.ahead(Scenes.RUNNING, 50));
        Scenes.asked("before it is compensated", 2, busy -> busy.ahead(Scenes.RUNNING, 54));
        Scenes.asked("it is compensated", 3, busy -> busy.ahead(Scenes.RUNNING, 55));
    }

    private static void aheadOfAll() {
        Check.says("In doubt", "ahead() lets all instances go on.");
        WorkflowEngine engine = Check.engine("ta");
        engine.start(0);
        engine.start(0);
        engine.failures(0, 1);
        Check.same("the failure is the first one's", 3, engine.ahead(0, 1));
        Check.same("and not the second one's", 1, engine.ahead(1, 1));
        Check.same("nothing has happened", 1, engine.count(20));
        engine = Check.engine("tacb;sa");
        Check.define(engine, 1, "w1;tb");
        RunTest.settle(engine, "a0 b2!1");
        engine.start(0);
        engine.start(1);
        engine.abort(0);
        Check.same("one that compensates takes it", 1, engine.ahead(1, 3));
        engine = Check.started("sa;w1");
        engine.signal(0, 0);
        Check.same("a pending signal is taken", 0, engine.ahead(0, 1));
        Check.same("a pending signal is taken", 1, engine.ahead(0, 2));
        Check.same("a signal still to be given is not", 0, Check.started("sa").ahead(0, 200));
        Check.same("beyond the last minute", 0, Scenes.late().ahead(0, 4));
        Check.same("beyond the last minute", 3, Scenes.late().ahead(0, 5));
        Check.same("the histories are not kept full", 1, fullHistory().ahead(0, 200));
    }

    /** An instance whose history has its 200 entries, and that still goes on. */
    private static WorkflowEngine fullHistory() {
        WorkflowEngine engine = Check.started("tar9;".repeat(12) + "w9;ta");
        for (int task = 0; task < 12; task++) {
            engine.failures(0, 9);
            engine.pass(10);
        }
        Check.same("entries", 240, engine.instance(0, 8));
        Check.same("status", 0, engine.instance(0, 0));
        return engine;
    }

    private static void replayed() {
        Check.says("Promise 18", "NONE if there is no such instance or what is invalid");
        for (int instance : NO_INSTANCE) {
            for (int what = -1; what <= 6; what++) {
                int number = what;
                Scenes.asked("replayed of " + instance, -1, busy -> busy.replayed(instance, number));
            }
        }
        for (int what : Scenes.outside(0, 5)) {
            Scenes.asked("replayed " + what, -1, busy -> busy.replayed(Scenes.RUNNING, what));
            Scenes.asked("replayed " + what, -1, busy -> busy.replayed(Scenes.BROKEN, what));
        }
        Check.says("Promise 18", "Returns the number");
        int[] running = {0, 2, 0, 0, 2, 0};
        int[] broken = {4, 1, 0, 1, 4, 0};
        for (int what = 0; what <= 5; what++) {
            int number = what;
            Scenes.asked("replayed " + what, running[what], busy -> busy.replayed(Scenes.RUNNING, number));
            Scenes.asked("replayed " + what, broken[what], busy -> busy.replayed(Scenes.BROKEN, number));
        }
        Check.says("Promise 18", "beginning with the status 0 and nothing done, the entries are gone through in order");
        WorkflowEngine engine = Check.started("w1");
        for (int what = 0; what <= 5; what++) {
            Check.same("no entries, replayed " + what, 0, engine.replayed(0, what));
        }
        Check.says("Promise 18", "of the kinds 2, 6, 7 and 11, the numbers of tasks done, compensated and stuck, and the status, are found.");
        for (int status = 0; status <= 4; status++) {
            Check.same("status", status, Scenes.busy().replayed(status, 0));
        }
    }

    private static void replayedKinds() {
        Check.says("Promise 18", "0 for the status, 1 for the tasks done, 2 for those compensated, 3 for those stuck");
        Check.says("Promise 18", "4 for the attempts that began, those of compensations included");
        Check.says("Promise 18", "5 for the attempts that failed, those of compensations not included");
        WorkflowEngine engine = Check.engine("tar1ce;tbcf;ta;(sb,0|x0=1)q1;sa,1");
        RunTest.settle(engine, "a0!1 b0 e1!2 f0!3");
        engine.start(0);
        engine.signal(0, 1);
        int[] running = {0, 3, 0, 0, 4, 1};
        int[] compensating = {2, 3, 0, 1, 8, 1};
        int[] broken = {4, 3, 1, 1, 10, 1};
        for (int what = 0; what <= 5; what++) {
            Check.same("running, replayed " + what, running[what], engine.replayed(0, what));
        }
        engine.pass(1);
        for (int what = 0; what <= 5; what++) {
            Check.same("compensating, replayed " + what, compensating[what], engine.replayed(0, what));
        }
        engine.pass(3);
        for (int what = 0; what <= 5; what++) {
            Check.same("broken, replayed " + what, broken[what], engine.replayed(0, what));
        }
        Check.says("Promise 18", "Replays the kept history of an instance");
        engine = fullHistory();
        int[] due = {0, 10, 0, 0, 100, 90};
        engine.abort(0);
        for (int what = 0; what <= 5; what++) {
            Check.same("kept, replayed " + what, due[what], engine.replayed(0, what));
        }
        Check.same("status", 3, engine.instance(0, 0));
        Check.same("the first entry is the status", 1, RunTest.run("w0", "", 0, "0:11:1").replayed(0, 0));
    }

    private static void statistic() {
        Check.says("Promise 19", "NONE if workflow or what is invalid");
        for (int workflow : Scenes.outside(0, 3)) {
            for (int what = -1; what <= 8; what++) {
                int number = what;
                Scenes.asked("statistic of " + workflow, -1, busy -> busy.statistic(workflow, number));
            }
        }
        for (int what : Scenes.outside(0, 7)) {
            for (int workflow = 0; workflow < 4; workflow++) {
                int number = workflow;
                Scenes.asked("statistic " + what, -1, busy -> busy.statistic(number, what));
            }
        }
        Check.says("Promise 19", "0 to 4 for the instances with this status");
        int[][] due = {{0, 0, 1, 1, 1, 3}, {1, 0, 0, 0, 0, 1}, {0, 0, 0, 0, 0, 0}, {0, 1, 0, 0, 0, 1}};
        for (int workflow = 0; workflow < 4; workflow++) {
            for (int what = 0; what <= 5; what++) {
                int number = workflow;
                int statistic = what;
                Scenes.asked("statistic " + workflow + " " + what, due[workflow][what], busy -> busy.statistic(number, statistic));
            }
        }
        Check.says("Promise 19", "5 for all instances");
        WorkflowEngine engine = Check.engine("w0");
        for (int i = 0; i <= 6; i++) {
            Check.same("all instances", i, engine.statistic(0, 5));
            Check.same("completed", i, engine.statistic(0, 1));
            engine.start(0);
        }
        Check.says("Promise 19", "-5 for 6 and 7 if none has ended");
        for (int what = 6; what <= 7; what++) {
            int number = what;
            Scenes.asked("none was started", -5, busy -> busy.statistic(Scenes.EMPTY, number));
            Scenes.asked("it runs", -5, busy -> busy.statistic(Scenes.ONE, number));
            Check.same("new", -5, new WorkflowEngine().statistic(3, what));
        }
        engine = RunTest.run("tacb;sa,0", "", 1, "0:0:0 1:2:0 1:4:0 1:11:2 1:5:1");
        Check.same("it compensates", -5, engine.statistic(0, 6));
        Check.same("it compensates", -5, engine.statistic(0, 7));
        engine.pass(1);
        Check.same("it has ended", Float.floatToIntBits(2f), engine.statistic(0, 6));
        Check.same("it has ended", 0, engine.statistic(0, 7));
        engine.remove(0);
        Check.says("Statistics", "a workflow count the instances of all its versions that were started and not removed.");
        Check.same("it is removed", -5, engine.statistic(0, 6));
        Check.same("it is removed", 0, engine.statistic(0, 5));
        engine = new WorkflowEngine();
        for (int version = 0; version < 4; version++) {
            Check.define(engine, 0, "w" + version);
            engine.start(0);
        }
        Check.define(engine, 1, "w0");
        engine.start(1);
        engine.pass(2);
        Check.same("all versions", 4, engine.statistic(0, 5));
        Check.same("completed", 3, engine.statistic(0, 1));
        Check.same("mean", Float.floatToIntBits(1f), engine.statistic(0, 6));
        Check.same("another workflow's", 1, engine.statistic(1, 5));
    }

    private static void floats() {
        Check.says("Promise 19", "6 for the bits of the mean number of minutes from the start to the end of those that have ended");
        Check.same("no minutes", Float.floatToIntBits(0f), RunTest.run("w0", "", 0, "0:11:1").statistic(0, 6));
        Check.same("one minute", Float.floatToIntBits(1f), RunTest.run("w1", "", 1, "1:11:1").statistic(0, 6));
        WorkflowEngine engine = Check.engine("sa");
        for (int i = 0; i < 6; i++) {
            engine.start(0);
        }
        int minutes = 0;
        for (int i = 0; i < 6; i++) {
            engine.abort(i);
            minutes += i * (i + 1) / 2;
            Check.same("mean", Float.floatToIntBits((float) minutes / (i + 1)), engine.statistic(0, 6));
            engine.pass(i + 1);
        }
        engine = Check.engine("w3");
        engine.start(0);
        engine.pass(2);
        engine.start(0);
        engine.start(0);
        engine.pass(1);
        engine.abort(1);
        engine.pass(2);
        Check.same("from their own start", Float.floatToIntBits(7 / 3f), engine.statistic(0, 6));
        engine = Check.engine("sa");
        engine.start(0);
        engine.start(0);
        engine.start(0);
        engine.abort(1);
        engine.abort(2);
        for (int i = 0; i < 499; i++) {
            engine.pass(200);
        }
        engine.pass(199);
        engine.abort(0);
        Check.same("the most minutes of three", Float.floatToIntBits(33333f), engine.statistic(0, 6));
        engine.remove(1);
        Check.same("of two", Float.floatToIntBits(99999 / 2f), engine.statistic(0, 6));
        engine.remove(2);
        Check.same("the most minutes", Float.floatToIntBits(99999f), engine.statistic(0, 6));
        Check.says("Promise 19", "7 for the bits of the share of the completed ones in those that have ended, as a float");
        for (int ended = 1; ended <= 6; ended++) {
            for (int completed = 0; completed <= ended; completed++) {
                engine = Check.engine("w1");
                for (int i = 0; i < ended; i++) {
                    engine.start(0);
                    if (i >= completed) {
                        engine.abort(i);
                    }
                }
                engine.pass(1);
                Check.same("share", Float.floatToIntBits((float) completed / ended), engine.statistic(0, 7));
            }
        }
        Check.says("Promise 19", "Returns a statistic of a workflow.");
        Check.says("Promise 19", "Returns the number");
        Scenes.asked("mean", Float.floatToIntBits(7f), busy -> busy.statistic(Scenes.TWO, 6));
        Scenes.asked("share", 0, busy -> busy.statistic(Scenes.TWO, 7));
        Scenes.asked("mean", Float.floatToIntBits(3f), busy -> busy.statistic(Scenes.ALL, 6));
        Scenes.asked("share", Float.floatToIntBits(1f), busy -> busy.statistic(Scenes.ALL, 7));
    }

    private static void image() {
        Check.says("Promise 21", "STATE if there is no snapshot");
        Scenes.refused("undo", -3, Scenes::fresh, WorkflowEngine::undo);
        Scenes.refused("undo", -3, Scenes::late, WorkflowEngine::undo);
        WorkflowEngine engine = Check.engine("w1");
        Check.same("undo", -3, engine.undo());
        Check.says("Promise 20", "Returns the number of instances.");
        Check.says("Promise 21", "Returns the number of instances");
        for (int instances = 0; instances <= 6; instances++) {
            Check.same("image", instances, engine.image());
            Check.same("undo", instances, engine.undo());
            engine.start(0);
        }
        engine.pass(1);
        engine.remove(2);
        Check.same("undo", 6, engine.undo());
        engine.pass(1);
        engine.remove(2);
        Check.same("image", 5, engine.image());
        Check.same("undo", 5, engine.undo());
        Check.says("Promise 20", "Takes a snapshot, in place of an earlier one.");
        engine = Check.started("sa");
        engine.image();
        engine.pass(3);
        engine.start(0);
        engine.image();
        engine.pass(4);
        Check.same("undo", 2, engine.undo());
        Check.same("the later one", 3, engine.count(0));
        Check.same("undo", 2, engine.undo());
        Check.same("the earlier one is gone", 3, engine.count(0));
        Check.says("Promise 21", "Restores the snapshot, which stays.");
        for (int i = 0; i < 3; i++) {
            engine.pass(5 + i);
            engine.abort(i % 2);
            Check.same("undo", 2, engine.undo());
            Check.same("minute", 3, engine.count(0));
            Check.same("running", 2, engine.count(2));
        }
    }

    /** Whatever is done between a snapshot and undo, nothing of it is left but what is on the tape. */
    private static void snapshot() {
        Check.says("Snapshot", "The snapshot contains everything but itself and the tape.");
        Scenes.Call[] changes = {engine -> engine.duration(3, 7), engine -> engine.failures(3, 7), engine -> engine.start(Scenes.ONE),
            engine -> engine.signal(Scenes.RUNNING, 2), engine -> engine.abort(Scenes.RUNNING), engine -> engine.pass(1),
            engine -> engine.remove(Scenes.COMPLETED), engine -> engine.remove(Scenes.BROKEN), engine -> engine.pass(200),
            QuestionBounds::defineAll, engine -> startedAnew(engine, Scenes.COMPLETED), engine -> startedAnew(engine, Scenes.BROKEN),
            engine -> startedAnew(engine, Scenes.COMPENSATED), engine -> engine.abort(Scenes.RUNNING) + engine.pass(200)
            + startedAnew(engine, Scenes.RUNNING), engine -> engine.pass(200) + startedAnew(engine, Scenes.COMPENSATING)};
        for (int i = 0; i < changes.length; i++) {
            WorkflowEngine engine = Scenes.busy();
            Check.same("image", 5, engine.image());
            String before = Check.state(engine);
            changes[i].on(engine);
            Check.same("change " + i + " changes something", 1, before.equals(Check.state(engine)) ? 0 : 1);
            Check.same("undo", 5, engine.undo());
            while (engine.count(4) < Scenes.ON_TAPE.length()) {
                engine.feed('t');
            }
            Check.same("after change " + i, before, Check.state(engine));
        }
        WorkflowEngine engine = Scenes.busy();
        int bytes = Scenes.ON_TAPE.length();
        engine.undo();
        Check.same("the tape stays", bytes, engine.count(4));
        Check.same("wrong is of the snapshot's time", -5, engine.wrong(0));
        Check.same("its bytes stay", 0, engine.define(Scenes.EMPTY));
        Check.same("its bytes stay", bytes, engine.version(Scenes.EMPTY, 0, 3));
        engine.undo();
        Check.same("an emptied tape stays empty", 0, engine.count(4));
        Check.same("the version is gone", -1, engine.version(Scenes.EMPTY, 0, 3));
        Check.same("define", -100, engine.define(Scenes.EMPTY));
        engine.image();
        Check.same("define", 0, Check.define(engine, Scenes.EMPTY, "ta"));
        engine.undo();
        Check.same("the wrong text is restored", 0, engine.wrong(0));
        Check.same("its reason is restored", 1, engine.wrong(1));
        Check.same("the number is free again", 0, Check.define(engine, Scenes.EMPTY, "ta;tb"));
    }

    /** Another instance in the place of one, so that nothing of the former is left in it. */
    private static int startedAnew(WorkflowEngine engine, int instance) {
        Check.same("define", 0, engine.define(Scenes.EMPTY));
        Check.same("define", 1, Check.define(engine, Scenes.EMPTY, "x0=5;x1=6;x2=7;(tgch;w9|w0)q1;teca;tbce;tbcd;sa,2"));
        RunTest.settle(engine, "g0 h0!3 e0 b0 a0 d9");
        engine.remove(instance);
        Check.same("start", instance, engine.start(Scenes.EMPTY));
        engine.signal(instance, 3);
        engine.pass(9);
        Check.same("compensating", 2, engine.instance(instance, 0));
        return instance;
    }

    private static int defineAll(WorkflowEngine engine) {
        engine.define(Scenes.EMPTY);
        Check.same("define", -101, Check.define(engine, Scenes.EMPTY, "t"));
        return engine.define(Scenes.ONE);
    }

    private static void count() {
        Check.says("Promise 22", "NONE if what is invalid");
        for (int what : new int[] {-1, 6, 7, 8, 9, 18, 19, 28, 29, Integer.MIN_VALUE, Integer.MIN_VALUE + 9, Integer.MAX_VALUE}) {
            Scenes.asked("count " + what, -1, busy -> busy.count(what));
        }
        Check.says("Promise 22", "Returns a count.");
        Check.says("Promise 22", "Returns the count");
        int[] due = {12, 5, 1, 1, Scenes.ON_TAPE.length(), 7};
        for (int what = 0; what < due.length; what++) {
            int number = what;
            Scenes.asked("count " + what, due[what], busy -> busy.count(number));
        }
        Check.says("Promise 22", "10 + c the duration of the code c");
        Check.says("Promise 22", "20 + c the failures to come of the code c");
        WorkflowEngine engine = new WorkflowEngine();
        for (int code = 0; code < 8; code++) {
            engine.duration(code, 99 - code);
            engine.failures(code, 80 + code);
        }
        for (int code = 0; code < 8; code++) {
            Check.same("duration", 99 - code, engine.count(10 + code));
            Check.same("failures", 80 + code, engine.count(20 + code));
        }
    }

    private static void counts() {
        Check.says("Promise 22", "0 the present minute");
        Check.same("the first minute", 0, new WorkflowEngine().count(0));
        Check.same("the last minute", 99999, Scenes.late().count(0));
        Check.says("Promise 22", "1 the instances");
        Check.says("Promise 22", "2 the running ones");
        Check.says("Promise 22", "3 the compensating ones");
        WorkflowEngine engine = Check.engine("tacb;sa");
        RunTest.settle(engine, "a0 b3");
        for (int i = 0; i <= 6; i++) {
            Check.same("instances", i, engine.count(1));
            Check.same("running", i, engine.count(2));
            engine.start(0);
        }
        for (int i = 0; i < 6; i++) {
            engine.abort(i);
            Check.same("instances", 6, engine.count(1));
            Check.same("running", 5 - i, engine.count(2));
            Check.same("compensating", i + 1, engine.count(3));
        }
        engine.pass(3);
        Check.same("those that have ended count as instances", 6, engine.count(1));
        Check.same("compensating", 0, engine.count(3));
        engine.remove(5);
        Check.same("instances", 5, engine.count(1));
        Check.says("Promise 22", "4 the bytes on the tape");
        Check.same("none", 0, new WorkflowEngine().count(4));
        Check.same("all", 80, Scenes.fullTape().count(4));
        Check.says("Promise 22", "5 the versions of all workflows");
        engine = new WorkflowEngine();
        for (int versions = 0; versions < 16; versions++) {
            Check.same("versions", versions, engine.count(5));
            Check.define(engine, versions / 4, "w0");
        }
        Check.same("all versions", 16, engine.count(5));
    }

    private static void errors() {
        Check.says("Errors", "NONE means that a number or selector is invalid, BAD that a value is out of range,"
            + " STATE that the state forbids the call, and FULL that a limit is reached.");
        Check.same("NONE", -1, WorkflowEngine.NONE);
        Check.same("BAD", -2, WorkflowEngine.BAD);
        Check.same("STATE", -3, WorkflowEngine.STATE);
        Check.same("FULL", -4, WorkflowEngine.FULL);
        Check.says("Errors", "The result -5 is returned only if no error applies.");
        for (int workflow : Scenes.outside(0, 3)) {
            Check.same("none has ended, of " + workflow, -1, new WorkflowEngine().statistic(workflow, 6));
            Check.same("none has ended, of " + workflow, -1, new WorkflowEngine().statistic(workflow, 7));
        }
        Check.same("nothing is due, and no instance", -1, new WorkflowEngine().due(0));
        Check.same("not ended, and no instance", -1, new WorkflowEngine().instance(0, 4));
        Check.says("Errors", "A call that returns an error code leaves the state unchanged");
        Check.says("Errors", "Questions do not change the state.");
        // Each refused call and each question above stands in Scenes.refused or Scenes.asked; here all come one after another.
        Scenes.refused("all of them", -1, Scenes::busy, QuestionBounds::everythingRefused);
        Scenes.refused("all of them", -1, Scenes::crowded, QuestionBounds::everythingRefused);
        Scenes.refused("all of them", -1, Scenes::fullTape, QuestionBounds::everythingRefused);
    }

    private static int everythingRefused(WorkflowEngine engine) {
        engine.feed(128);
        engine.define(Scenes.ALL);
        engine.define(4);
        engine.wrong(2);
        engine.version(Scenes.EMPTY, -1, 0);
        engine.duration(0, 100);
        engine.failures(8, 1);
        engine.start(Scenes.EMPTY);
        engine.signal(Scenes.RUNNING, 4);
        engine.signal(Scenes.BROKEN, 0);
        engine.abort(Scenes.COMPENSATING);
        engine.remove(Scenes.RUNNING);
        engine.pass(0);
        engine.pass(201);
        engine.instance(Scenes.RUNNING, 9);
        engine.entry(Scenes.RUNNING, 200, 0);
        engine.running(Scenes.RUNNING, 24);
        engine.due(Scenes.RUNNING);
        engine.ahead(Scenes.RUNNING, 200);
        engine.replayed(Scenes.RUNNING, 5);
        engine.statistic(Scenes.TWO, 7);
        return engine.count(6);
    }
}
