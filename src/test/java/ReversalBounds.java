/** The boundary cases of 'Compensation', 'Instances' and 'Histories', and what 'In doubt' says of them. */
final class ReversalBounds {
    private ReversalBounds() {
    }

    static void all() {
        order();
        attempts();
        leftOut();
        givenUp();
        doneAsBefore();
        begins();
        statuses();
        kinds();
        values();
        firstEntries();
    }

    private static WorkflowEngine run(String text, String settings, int minutes, String history) {
        return RunTest.run(text, settings, minutes, history);
    }

    private static void order() {
        Check.says("Compensation", "Tasks that were done, and not compensated, are compensated in the reverse order in which they were done");
        run("(tacb|tccd|tecf);sa,0", "a3 c1 e2", 6, "0:0:0 0:0:2 0:0:4 1:2:2 2:2:4 3:2:0 3:9:3 3:4:0 3:11:2 3:5:1 4:6:0 4:5:5 5:6:4"
            + " 5:5:3 6:6:2 6:11:3");
        run("(tacb|tccd);sa,0", "", 3, "0:0:0 0:0:2 1:2:0 1:2:2 1:9:2 1:4:0 1:11:2 1:5:3 2:6:2 2:5:1 3:6:0 3:11:3");
        run("tacb;sa,0", "", 2, "0:0:0 1:2:0 1:4:0 1:11:2 1:5:1 2:6:0 2:11:3");
        run("sa,0;tacb", "", 2, "0:4:0 0:11:2 0:11:3");
        run("tacb;tccd", "c1!1", 3, "0:0:0 1:2:0 1:0:2 2:1:2 2:11:2 2:5:1 3:6:0 3:11:3");
        String tasks = "tacb;".repeat(15);
        WorkflowEngine engine = run(tasks + "sa,0", "a0 b0", 0, "0:0:0 0:2:0 ".repeat(15) + "0:4:0 0:11:2 " + "0:5:1 0:6:0 ".repeat(15)
            + "0:11:3");
        Check.same("compensated", 15, engine.instance(0, 6));
        Check.says("Compensation", "those that have a code after c, one after the other, by attempts of the action with this code");
        run("(tacb|tccd);sa,0", "b2 d3", 5, "0:0:0 0:0:2 1:2:0 1:2:2 1:9:2 1:4:0 1:11:2 1:5:3 4:6:2 4:5:1");
        run("taca;sa,0", "", 2, "0:0:0 1:2:0 1:4:0 1:11:2 1:5:0 2:6:0 2:11:3");
    }

    private static void attempts() {
        Check.says("Compensation", "if an attempt fails, the next one begins at once, and if three have failed, the task is stuck.");
        String before = "0:0:0 1:2:0 1:4:0 1:11:2 1:5:1 ";
        String[] after = {"2:6:0 2:11:3", "2:5:1 3:6:0 3:11:3", "2:5:1 3:5:1 4:6:0 4:11:3", "2:5:1 3:5:1 4:7:0 4:11:4",
            "2:5:1 3:5:1 4:7:0 4:11:4", "2:5:1 3:5:1 4:7:0 4:11:4"};
        Check.says("In doubt", "An attempt of a compensation that fails has no entry.");
        for (int failures = 0; failures < after.length; failures++) {
            WorkflowEngine engine = run("tacb;sa,0", "b1!" + failures, 9, before + after[failures]);
            Check.same("failures to come", Math.max(0, failures - 3), engine.count(21));
            Check.same("compensated", failures < 3 ? 1 : 0, engine.instance(0, 6));
            Check.same("stuck", failures < 3 ? 0 : 1, engine.instance(0, 7));
            Check.same("failed attempts", 0, engine.replayed(0, 5));
        }
        // Each task has three attempts of its own.
        run("tacb;tacb;sa,0", "a0 b0!4", 0, "0:0:0 0:2:0 0:0:0 0:2:0 0:4:0 0:11:2 0:5:1 0:5:1 0:5:1 0:7:0 0:5:1 0:5:1 0:6:0 0:11:4");
        // The repetitions and delays after r are those of the task alone.
        run("tar9+9cb;sa,0", "a0 b0!3", 0, "0:0:0 0:2:0 0:4:0 0:11:2 0:5:1 0:5:1 0:5:1 0:7:0 0:11:4");
        Check.says("Compensation", "Either way it goes on with the next one");
        run("tace;tccd;sa,0", "d0!3 e1", 3, "0:0:0 1:2:0 1:0:2 2:2:2 2:4:0 2:11:2 2:5:3 2:5:3 2:5:3 2:7:2 2:5:4 3:6:0 3:11:4");
        run("tace;tccd;sa,0", "d0 e1", 3, "0:0:0 1:2:0 1:0:2 2:2:2 2:4:0 2:11:2 2:5:3 2:6:2 2:5:4 3:6:0 3:11:3");
    }

    private static void leftOut() {
        Check.says("Compensation", "a task without a code after c, or one that is stuck, is left out, without an entry.");
        run("ta;tbcd;tc;sa,0", "", 4, "0:0:0 1:2:0 1:0:1 2:2:1 2:0:2 3:2:2 3:4:0 3:11:2 3:5:3 4:6:1 4:11:3");
        Check.says("In doubt", "A task without a code after c is neither compensated nor stuck.");
        WorkflowEngine engine = run("ta;tb;sa,0", "a0 b0", 0, "0:0:0 0:2:0 0:0:1 0:2:1 0:4:0 0:11:2 0:11:3");
        int[] due = {2, 0, 0};
        for (int what = 5; what <= 7; what++) {
            Check.same("instance what " + what, due[what - 5], engine.instance(0, what));
        }
        Check.says("Compensation", "or one that is stuck, is left out");
        run("(tacb;w9|w1)q1;sa,0", "b0!3", 1, "0:0:0 1:2:0 1:10:0 1:5:1 1:5:1 1:5:1 1:7:0 1:9:1 1:4:0 1:11:2 1:11:4");
        Check.says("Compensation", "Tasks that were done, and not compensated");
        run("(tacb;w9|w1)q1;sa,0", "b0", 1, "0:0:0 1:2:0 1:10:0 1:5:1 1:6:0 1:9:1 1:4:0 1:11:2 1:11:3");
        // Compensated by an inner parallel already, while the outer one compensates the same body.
        run("((tacb;w9|w1)q1;tccd;w9|w3)q1", "b0", 4,
            "0:0:0 1:2:0 1:10:0 1:5:1 1:6:0 1:9:1 1:0:2 2:2:2 3:10:0 3:5:3 4:6:2 4:9:1 4:11:1");
    }

    private static void givenUp() {
        Check.says("Compensation", "A compensation that is going on is not cancelled with its parallel: it is given up");
        // The attempt ends at 4: a minute before, the parallel is cancelled while it compensates; at 4 it is done in time.
        run("((tacb;w9|w1)q1|w3)q1", "b3", 6, "0:0:0 1:2:0 1:10:0 1:5:1 3:10:0 3:5:1 6:6:0 6:9:1 6:11:1");
        run("((tacb;w9|w1)q1|w4)q1", "b3", 4, "0:0:0 1:2:0 1:10:0 1:5:1 4:6:0 4:9:1 4:9:2 4:11:1");
        run("(w4|(tacb;w9|w1)q1)q1", "b3", 4, "0:0:0 1:2:0 1:10:0 1:5:1 4:6:0 4:9:1 4:9:2 4:11:1");
        run("((tacb;w9|w1)q1|sa,3)", "b3", 6, "0:0:0 1:2:0 1:10:0 1:5:1 3:4:0 3:10:0 3:11:2 3:5:1 6:6:0 6:11:3");
        WorkflowEngine engine = run("(tacb;w9|w1)q1;w9", "b3", 3, "0:0:0 1:2:0 1:10:0 1:5:1");
        engine.failures(1, 1);
        Check.same("abort", 2, engine.abort(0));
        engine.pass(2);
        Check.same("the attempt that was given up has no effect", 1, engine.count(21));
        engine.pass(1);
        Check.same("the new one has", 0, engine.count(21));
        Check.same("history", "0:0:0 1:2:0 1:10:0 1:5:1 3:11:2 3:5:1 6:5:1", Check.history(engine, 0));
    }

    private static void doneAsBefore() {
        Check.says("Compensation", "and its tasks that are neither compensated nor stuck are regarded as done as before.");
        run("((tacb;tccd;w9|w3)q1|w4)q1", "b2 d1", 6,
            "0:0:0 1:2:0 1:0:2 2:2:2 3:10:0 3:5:3 4:6:2 4:5:1 4:10:0 4:5:1 6:6:0 6:9:1 6:11:1");
        run("((tacb;tccd;w9|w3)q1|w4)q1", "b2 d0!3", 6,
            "0:0:0 1:2:0 1:0:2 2:2:2 3:10:0 3:5:3 3:5:3 3:5:3 3:7:2 3:5:1 4:10:0 4:5:1 6:6:0 6:9:1 6:11:1");
        // Two attempts failed before it was given up, and two more fail behind it: the three are counted anew.
        run("((tacb;w9|w1)q1|w6)q1", "b2!4", 12,
            "0:0:0 1:2:0 1:10:0 1:5:1 3:5:1 5:5:1 6:10:0 6:5:1 8:5:1 10:5:1 12:6:0 12:9:1 12:11:1");
        WorkflowEngine engine = run("((tacb;w9|w1)q1|w3)q1", "b3", 3, "0:0:0 1:2:0 1:10:0 1:5:1 3:10:0 3:5:1");
        Check.same("done", 1, engine.instance(0, 5));
        Check.same("compensated", 0, engine.instance(0, 6));
        Check.same("stuck", 0, engine.instance(0, 7));
    }

    private static void begins() {
        Check.says("Instances", "An instance begins with the minute at which it is started, with all variables 0, without pending signals");
        WorkflowEngine engine = Check.engine("x0=1;x1=2;x2=3;x3=-4;w2");
        engine.start(0);
        for (int code = 0; code < 8; code++) {
            engine.signal(0, code);
        }
        engine.pass(7);
        Check.same("remove", 1, engine.remove(0));
        Check.define(engine, 0, "w1;[x0<0:w9|x1=1];[x3<1:x2=1|w9];sh,1");
        Check.same("start", 0, engine.start(0));
        for (int variable = 0; variable < 4; variable++) {
            Check.same("variable " + variable, 0, engine.instance(0, 10 + variable));
        }
        for (int code = 0; code < 8; code++) {
            Check.same("pending " + code, 0, engine.instance(0, 20 + code));
        }
        Check.same("started", 7, engine.instance(0, 3));
        engine.pass(2);
        Check.same("history", "8:8:1 8:8:2 9:4:7 9:11:2 9:11:3", Check.history(engine, 0));
        begunAgain();
        Check.says("Instances", "and is looked at at once.");
        run("x0=1;w0;x1=1", "", 0, "0:8:0 0:8:1 0:11:1");
        engine = Check.engine("w3", "ta");
        RunTest.settle(engine, "a0!1");
        engine.pass(5);
        engine.start(0);
        Check.same("the other ones are not", "5:0:0 5:1:0 5:11:2 5:11:3", Check.history(engine, 0));
        Check.same("ended in its first minute", 5, engine.instance(0, 4));
    }

    /** An instance with the number of a removed one has nothing of it. */
    private static void begunAgain() {
        WorkflowEngine engine = Check.engine("(tar3ch;w9|w1)q1;tbcg;tccg;(td;w9|w9)");
        RunTest.settle(engine, "a0!3 b0 c0 d0 g0!3 h0!2");
        engine.start(0);
        engine.pass(3);
        Check.same("abort", 4, engine.abort(0));
        int[] broken = {4, 0, 0, 0, 3, 4, 2, 1};
        int[] begun = {0, 0, 1, 3, -5, 0, 0, 0, 1};
        for (int what = 0; what < broken.length; what++) {
            Check.same("broken " + what, broken[what], engine.instance(0, what));
        }
        Check.same("remove", 4, engine.remove(0));
        Check.define(engine, 0, "tar1cb;(tbca;w9|w2)q1;w9");
        RunTest.settle(engine, "a1!1 b1");
        Check.same("start", 0, engine.start(0));
        for (int what = 0; what < begun.length; what++) {
            Check.same("begun again " + what, begun[what], engine.instance(0, what));
        }
        Check.same("running", "0", Check.running(engine, 0));
        engine.pass(4);
        Check.same("history", "3:0:0 4:1:0 4:0:0 5:2:0 5:0:1 6:2:1 7:10:0 7:5:0", Check.history(engine, 0));
        engine.pass(1);
        Check.same("abort", 2, engine.abort(0));
        engine.pass(1);
        Check.same("status", 3, engine.instance(0, 0));
        Check.same("done", 2, engine.instance(0, 5));
        Check.same("compensated", 2, engine.instance(0, 6));
        engine = Check.engine("tar3;(w0|w0)");
        RunTest.settle(engine, "a0!3");
        engine.start(0);
        Check.same("remove", 1, engine.remove(0));
        Check.define(engine, 0, "tar1;[x0<1:tb|w9];tc");
        engine.failures(0, 1);
        Check.same("start", 0, engine.start(0));
        engine.pass(2);
        Check.same("history", "0:0:0 0:1:0 0:0:0 0:2:0 0:0:1 1:2:1 1:0:2 2:2:2 2:11:1", Check.history(engine, 0));
    }

    private static void statuses() {
        Check.says("Instances", "Its status is 0 running");
        Check.same("status", 0, run("w1", "", 0, "").instance(0, 0));
        Check.says("Instances", "1 completed, if its body is done");
        Check.same("status", 1, run("w1", "", 1, "1:11:1").instance(0, 0));
        Check.same("with a stuck task", 1, run("(tacb;w9|w1)q1", "b0!3", 1,
            "0:0:0 1:2:0 1:10:0 1:5:1 1:5:1 1:5:1 1:7:0 1:9:1 1:11:1").instance(0, 0));
        Check.says("Instances", "2 compensating, when its body has failed or it is aborted: all tasks that were done are compensated, beginning at once");
        Check.same("failed", 2, run("tacb;sa,1", "", 2, "0:0:0 1:2:0 2:4:0 2:11:2 2:5:1").instance(0, 0));
        WorkflowEngine engine = run("tacb;sa,2", "", 2, "0:0:0 1:2:0");
        Check.same("aborted", 2, engine.abort(0));
        Check.same("history", "0:0:0 1:2:0 2:11:2 2:5:1", Check.history(engine, 0));
        Check.says("Instances", "3 compensated, when this has ended and no task of it was ever stuck");
        engine.pass(1);
        Check.same("status", 3, engine.instance(0, 0));
        Check.same("with two failures", 3, run("tacb;sa,0", "a0 b0!2", 0, "0:0:0 0:2:0 0:4:0 0:11:2 0:5:1 0:5:1 0:5:1 0:6:0 0:11:3")
            .instance(0, 0));
        Check.says("Instances", "4 broken, if one was.");
        Check.same("with three failures", 4, run("tacb;sa,0", "a0 b0!3", 0, "0:0:0 0:2:0 0:4:0 0:11:2 0:5:1 0:5:1 0:5:1 0:7:0 0:11:4")
            .instance(0, 0));
        Check.same("the last of two", 4, run("tacb;taca;sa,0", "a0 b0!3", 0,
            "0:0:0 0:2:0 0:0:0 0:2:0 0:4:0 0:11:2 0:5:0 0:6:0 0:5:1 0:5:1 0:5:1 0:7:0 0:11:4").instance(0, 0));
        Check.says("In doubt", "A status 3 is due to any task that was ever stuck.");
        // Whether it is 3 is decided by all its tasks: one was stuck when a parallel was done, none at the end.
        engine = run("(tacb;w9|w1)q1;tccd;w9", "b0!3 c0", 1,
            "0:0:0 1:2:0 1:10:0 1:5:1 1:5:1 1:5:1 1:7:0 1:9:1 1:0:2 1:2:2");
        Check.same("abort", 2, engine.abort(0));
        engine.pass(1);
        Check.same("status", 4, engine.instance(0, 0));
        Check.same("compensated", 1, engine.instance(0, 6));
    }

    private static void kinds() {
        Check.says("Histories", "kind 0 an attempt of a task begins, 1 such an attempt fails, 2 a task is done, 3 a signal is taken, 4 a signal fails");
        Check.says("Histories", "5 an attempt of a compensation begins, 6 a task is compensated, 7 a task is stuck");
        Check.says("Histories", "each with the code of the action, or of the signal for 3 and 4, or of the task for 6 and 7");
        for (int code = 0; code < 8; code++) {
            char sign = (char) ('a' + code);
            char other = (char) ('a' + (code + 3) % 8);
            int reversal = (code + 3) % 8;
            String text = "w1;s" + sign + ";t" + sign + "r1c" + other + ";s" + sign + ",0";
            for (int failures = 2; failures <= 3; failures++) {
                WorkflowEngine engine = Check.engine(text);
                RunTest.settle(engine, sign + "0!1 " + other + "0!" + failures);
                engine.start(0);
                engine.signal(0, code);
                engine.pass(1);
                String task = "1:0:" + code + " 1:1:" + code + " 1:0:" + code + " 1:2:" + code;
                String attempts = (" 1:5:" + reversal).repeat(3);
                String end = failures == 2 ? " 1:6:" + code + " 1:11:3" : " 1:7:" + code + " 1:11:4";
                Check.same("history", "1:3:" + code + " " + task + " 1:4:" + code + " 1:11:2" + attempts + end,
                    Check.history(engine, 0));
            }
        }
    }

    private static void values() {
        Check.says("Histories", "8 a variable is changed, with the number of the variable");
        run("x0=9;x1=9;x2+9;x3+9", "", 0, "0:8:0 0:8:1 0:8:2 0:8:3 0:11:1");
        Check.says("Histories", "9 a parallel is done, with the number of its bodies that were done");
        run("(x0=1);(x0=1|x0=1);(x0=1|x0=1|x0=1)q1;(x0=1|x0=1|x0=1|x0=1)q2", "", 0, "0:8:0 0:9:1 0:8:0 0:8:0 0:9:2"
            + " 0:8:0 0:8:0 0:8:0 0:9:3 0:8:0 0:8:0 0:8:0 0:8:0 0:9:4 0:11:1");
        run("(w1|sa,0|w1|sb,0)q2", "", 1, "0:4:0 0:4:1 1:9:2 1:11:1");
        Check.says("Histories", "10 a body of a parallel is cancelled, with its index in it, where bodies within it have no entries");
        run("(w9|w9|w9|w1)q1", "", 1, "1:10:0 1:10:1 1:10:2 1:9:1 1:11:1");
        run("(w1|w9|w9|w9)q1", "", 1, "1:10:1 1:10:2 1:10:3 1:9:1 1:11:1");
        run("((w9|w9)|(w9|(w9|w9)q1)|[x0<1:(w9|w9)|w1]|w1)q1", "", 1, "1:10:0 1:10:1 1:10:2 1:9:1 1:11:1");
        run("((w9|w2)q1|w1)", "", 2, "2:10:0 2:9:1 2:9:2 2:11:1");
        Check.says("Histories", "11 the status changes, with the new one.");
        run("w0", "", 0, "0:11:1");
        run("sa,0", "", 0, "0:4:0 0:11:2 0:11:3");
        run("tacb;sa,0", "a0 b0!3", 0, "0:0:0 0:2:0 0:4:0 0:11:2 0:5:1 0:5:1 0:5:1 0:7:0 0:11:4");
        Check.says("Histories", "Beginning to run is no entry.");
        WorkflowEngine engine = run("w9", "", 8, "");
        Check.same("entries", 0, engine.instance(0, 8));
        Check.same("entry", -1, engine.entry(0, 0, 0));
        Check.says("Histories", "Each instance has a history of entries with a minute, a kind and a value");
        engine = Scenes.at(99994);
        engine.start(0);
        engine.signal(1, 0);
        engine.pass(5);
        Check.same("the last minute", "99999:4:0 99999:11:2 99999:11:3", Check.history(engine, 0));
        Check.same("another instance", "99995:3:0 99995:0:0 99996:2:0 99996:11:1", Check.history(engine, 1));
    }

    /** An engine with one instance that has ended, with an even or odd number of entries about 200. */
    private static WorkflowEngine entries(int entries) {
        WorkflowEngine engine = Check.started("tar9;".repeat(9) + "tar9" + (entries % 2 == 0 ? ";x0=1" : ""));
        for (int task = 0; task < 9; task++) {
            engine.failures(0, 9);
            engine.pass(10);
        }
        engine.failures(0, (entries - 183) / 2);
        engine.pass(10);
        Check.same("status", 1, engine.instance(0, 0));
        return engine;
    }

    private static void firstEntries() {
        Check.says("Histories", "The first 200 entries are kept.");
        for (int entries = 197; entries <= 202; entries++) {
            WorkflowEngine engine = entries(entries);
            Check.says("Promise 13", "8 the entries of its history, those not kept included");
            Check.same("entries", entries, engine.instance(0, 8));
            int kept = Math.min(200, entries);
            for (int i : new int[] {0, kept - 1, kept, 199, 200, 201, entries}) {
                for (int what = 0; what < 3; what++) {
                    Check.same("entry " + i + " of " + entries, i < kept ? 1 : 0, engine.entry(0, i, what) < 0 ? 0 : 1);
                }
            }
            Check.same("the last one", entries <= 200 ? 11 : 2, engine.entry(0, kept - 1, 1));
            Check.says("Promise 18", "Replays the kept history of an instance");
            Check.same("status", entries <= 200 ? 1 : 0, engine.replayed(0, 0));
            Check.same("tasks done", 10, engine.replayed(0, 1));
            Check.same("attempts", (entries - (entries % 2 == 0 ? 2 : 1)) / 2, engine.replayed(0, 4));
        }
    }
}
