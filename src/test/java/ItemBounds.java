/** The boundary cases of what runs: 'Environment', 'Time', 'Items', and what 'In doubt' says of them. */
final class ItemBounds {
    private ItemBounds() {
    }

    static void all() {
        durations();
        failures();
        minutes();
        order();
        bodies();
        attempts();
        delays();
        longDelays();
        waits();
        signals();
        signalMinutes();
        sets();
        choices();
        parallels();
        quorum();
        outOfReach();
        compensated();
        cancelled();
    }

    /** Lets a text run for some minutes, with durations and failures like "a2 b3!1", and looks at its history. */
    private static WorkflowEngine run(String text, String settings, int minutes, String history) {
        return RunTest.run(text, settings, minutes, history);
    }

    private static void durations() {
        Check.says("Environment", "An attempt of an action with this code lasts as long as the duration is when it begins.");
        run("ta", "", 0, "0:0:0");
        run("ta", "", 1, "0:0:0 1:2:0 1:11:1");
        run("ta", "a0", 0, "0:0:0 0:2:0 0:11:1");
        run("ta", "a1", 0, "0:0:0");
        run("ta", "a99", 98, "0:0:0");
        run("ta", "a99", 99, "0:0:0 99:2:0 99:11:1");
        run("ta", "b0 a2", 1, "0:0:0");
        WorkflowEngine engine = run("tar1", "a3!1", 0, "0:0:0");
        engine.duration(0, 9);
        engine.pass(2);
        Check.same("before its end", "0:0:0", Check.history(engine, 0));
        engine.pass(1);
        engine.duration(0, 0);
        engine.pass(8);
        Check.same("the next one's end", "0:0:0 3:1:0 3:0:0", Check.history(engine, 0));
        engine.pass(1);
        Check.same("the next one's end", "0:0:0 3:1:0 3:0:0 12:2:0 12:11:1", Check.history(engine, 0));
        engine = run("tacb;w9", "a0 b4", 0, "0:0:0 0:2:0");
        engine.abort(0);
        engine.duration(1, 0);
        engine.pass(3);
        Check.same("an attempt of a compensation", "0:0:0 0:2:0 0:11:2 0:5:1", Check.history(engine, 0));
        engine.pass(1);
        Check.same("its end", "0:0:0 0:2:0 0:11:2 0:5:1 4:6:0 4:11:3", Check.history(engine, 0));
    }

    private static void failures() {
        Check.says("Environment", "When it ends, it fails if there are failures to come, whereby they become one less");
        Check.same("the last one", 0, run("ta", "a1!1", 1, "0:0:0 1:1:0 1:11:2 1:11:3").count(20));
        Check.same("one of 99", 98, run("ta", "a1!99", 1, "0:0:0 1:1:0 1:11:2 1:11:3").count(20));
        Check.same("not before it ends", 1, run("ta", "a2!1", 1, "0:0:0").count(20));
        WorkflowEngine engine = run("ta", "a2", 1, "0:0:0");
        engine.failures(0, 1);
        engine.pass(1);
        Check.same("set before it ends", "0:0:0 2:1:0 2:11:2 2:11:3", Check.history(engine, 0));
        engine = run("tacb;w9", "a0", 0, "0:0:0 0:2:0");
        engine.failures(1, 2);
        engine.abort(0);
        engine.pass(1);
        Check.same("an attempt of a compensation", 1, engine.count(21));
        Check.says("Environment", "otherwise it succeeds.");
        Check.same("none to come", 0, run("ta", "a1", 1, "0:0:0 1:2:0 1:11:1").count(20));
        Check.same("those of another code", 1, run("ta", "b1!1", 1, "0:0:0 1:2:0 1:11:1").count(21));
        engine = run("ta", "a2!1", 1, "0:0:0");
        engine.failures(0, 0);
        engine.pass(1);
        Check.same("taken back before it ends", "0:0:0 2:2:0 2:11:1", Check.history(engine, 0));
    }

    private static void minutes() {
        Check.says("Time", "When time passes, then for each minute, after the time has become this minute");
        String text = "w1;x0=1;w1;x1=1;w3;x2=1";
        run(text, "", 5, "1:8:0 2:8:1 5:8:2 5:11:1");
        WorkflowEngine engine = Check.started(text);
        for (int i = 0; i < 5; i++) {
            engine.pass(1);
        }
        Check.same("a minute after the other", "1:8:0 2:8:1 5:8:2 5:11:1", Check.history(engine, 0));
        engine = Check.engine("w2;ta");
        Check.define(engine, 1, "w1;ta");
        RunTest.settle(engine, "a0!1");
        engine.start(0);
        engine.start(1);
        engine.pass(5);
        Check.same("all instances in each minute", "2:0:0 2:2:0 2:11:1", Check.history(engine, 0));
        Check.same("all instances in each minute", "1:0:0 1:1:0 1:11:2 1:11:3", Check.history(engine, 1));
        Check.says("Time", "Looking at an instance means looking at its body");
        engine = Check.started("sa");
        engine.signal(0, 0);
        engine.start(0);
        engine.abort(1);
        Check.same("not looked at", "", Check.history(engine, 0));
        engine.pass(1);
        Check.same("looked at", "1:3:0 1:11:1", Check.history(engine, 0));
        Check.says("Time", "what is done at a minute is done in one go, as far as it takes no time.");
        run("w0;x0=1;ta;(tb|w0);[x0<1:w9|sa,0]", "a0 b0", 0,
            "0:8:0 0:0:0 0:2:0 0:0:1 0:2:1 0:9:2 0:4:0 0:11:2 0:11:3");
        run("tar9cb;sa,0", "a0!9 b0!2", 0,
            "0:0:0 0:1:0 ".repeat(9) + "0:0:0 0:2:0 0:4:0 0:11:2 0:5:1 0:5:1 0:5:1 0:6:0 0:11:3");
        // As many compensations as a text has room for, each with three attempts, in one minute.
        engine = Check.engine("tacb;".repeat(15) + "sa,0");
        RunTest.settle(engine, "a0 b0!99");
        engine.start(0);
        Check.same("broken", 4, engine.instance(0, 0));
        Check.same("stuck", 15, engine.instance(0, 7));
        Check.same("failures", 99 - 45, engine.count(21));
        engine = Check.engine("tar9;".repeat(15) + "tar9");
        RunTest.settle(engine, "a0!99");
        engine.start(0);
        Check.same("the first task takes ten failures", 89, engine.count(20));
    }

    private static void order() {
        Check.says("Time", "the running instances are looked at in ascending order.");
        WorkflowEngine engine = Check.engine("ta");
        for (int i = 0; i < 6; i++) {
            engine.start(0);
        }
        engine.failures(0, 3);
        engine.pass(1);
        for (int i = 0; i < 6; i++) {
            Check.same("status of " + i, i < 3 ? 3 : 1, engine.instance(i, 0));
        }
        engine = Check.engine("w0");
        engine.start(0);
        Check.define(engine, 0, "ta");
        engine.start(0);
        engine.remove(0);
        engine.start(0);
        engine.failures(0, 1);
        engine.pass(1);
        Check.same("the number counts, not the age", 3, engine.instance(0, 0));
        Check.same("the number counts, not the age", 1, engine.instance(1, 0));
        Check.says("In doubt", "Compensating instances are looked at, too.");
        for (int compensating = 0; compensating < 2; compensating++) {
            engine = Check.engine("tacb;w9");
            Check.define(engine, 1, "tb");
            RunTest.settle(engine, "a0 b2");
            for (int i = 0; i < 2; i++) {
                engine.start(i == compensating ? 0 : 1);
            }
            engine.abort(compensating);
            engine.failures(1, 1);
            engine.pass(2);
            Check.same("the running one", compensating == 0 ? 1 : 3, engine.instance(1 - compensating, 0));
            Check.same("the compensating one", compensating == 0 ? 2 : 3, engine.instance(compensating, 0));
        }
    }

    private static void bodies() {
        Check.says("Items", "A body begins its first item when it begins, and the next one when an item is done, in the same minute");
        run("ta;tb", "", 0, "0:0:0");
        run("ta;tb", "", 1, "0:0:0 1:2:0 1:0:1");
        run("(ta;tb)", "", 1, "0:0:0 1:2:0 1:0:1");
        run("[x0<1:ta;tb|w1]", "", 1, "0:0:0 1:2:0 1:0:1");
        run("w0;".repeat(22) + "w0;ta", "", 0, "0:0:0");
        run("w0;".repeat(23) + "w0", "", 0, "0:11:1");
        run("w1;" + "w0;".repeat(22) + "w0", "", 1, "1:11:1");
        run("((((ta))))", "", 1, "0:0:0 1:2:0 1:9:1 1:9:1 1:9:1 1:9:1 1:11:1");
        run("[x0<1:".repeat(4) + "ta" + "|w1]".repeat(4), "", 1, "0:0:0 1:2:0 1:11:1");
        run("[x0<0:w9|".repeat(4) + "w1;ta" + "]".repeat(4), "", 2, "1:0:0 2:2:0 2:11:1");
        run("w1;([x0<1:([x0<1:w1;ta|w1])|w1])", "a0", 2, "2:0:0 2:2:0 2:9:1 2:9:1 2:11:1");
        Check.says("Items", "it is done with its last item, and fails as soon as an item fails.");
        run("x0=1", "", 0, "0:8:0 0:11:1");
        run("x0=1;w1", "", 0, "0:8:0");
        run("x0=1;w1", "", 1, "0:8:0 1:11:1");
        run("sa,0;x0=1", "", 0, "0:4:0 0:11:2 0:11:3");
        run("x0=1;sa,0;x1=1", "", 0, "0:8:0 0:4:0 0:11:2 0:11:3");
        run("x0=1;sa,0", "", 0, "0:8:0 0:4:0 0:11:2 0:11:3");
        run("ta;x1=1", "a1!1", 1, "0:0:0 1:1:0 1:11:2 1:11:3");
        run("(sa,1;x0=1|w2;x1=1)q1;x2=1", "", 2, "1:4:0 2:8:1 2:9:1 2:8:2 2:11:1");
        run("[x0<1:sa,1|w1];x2=1", "", 2, "1:4:0 1:11:2 1:11:3");
        Check.says("Items", "An item that begins is looked at at once.");
        WorkflowEngine engine = Check.started("w1;sa;x0=1;sa,0");
        engine.signal(0, 0);
        engine.signal(0, 0);
        engine.pass(1);
        Check.same("history", "1:3:0 1:8:0 1:3:0 1:11:1", Check.history(engine, 0));
    }

    private static void attempts() {
        Check.says("Items", "A task begins its first attempt when it begins, with the action of its code.");
        run("w2;th", "", 1, "");
        run("w2;th", "", 2, "2:0:7");
        Check.says("Items", "When an attempt ends at the present minute or before: if it succeeds, the task is done");
        run("ta;w1", "a2", 1, "0:0:0");
        run("ta;w1", "a2", 2, "0:0:0 2:2:0");
        Check.says("Items", "if it fails and there were not more attempts so far than the digit after r, 0 without it");
        String again = "0:0:0 0:1:0 ";
        for (int digit = 0; digit <= 9; digit++) {
            run("tar" + digit, "a0!" + digit, 0, again.repeat(digit) + "0:0:0 0:2:0 0:11:1");
            run("tar" + digit, "a0!" + (digit + 1), 0, again.repeat(digit + 1) + "0:11:2 0:11:3");
        }
        run("ta", "a0!1", 0, again + "0:11:2 0:11:3");
        run("w1;tar9", "a0!9", 1, "1:0:0 1:1:0 ".repeat(9) + "1:0:0 1:2:0 1:11:1");
        run("w1;tar9", "a0!10", 1, "1:0:0 1:1:0 ".repeat(10) + "1:11:2 1:11:3");
        run("tar9", "a1!9", 10, "0:0:0 1:1:0 1:0:0 2:1:0 2:0:0 3:1:0 3:0:0 4:1:0 4:0:0 5:1:0 5:0:0 6:1:0 6:0:0 7:1:0"
            + " 7:0:0 8:1:0 8:0:0 9:1:0 9:0:0 10:2:0 10:11:1");
        Check.says("Items", "otherwise the task fails.");
        Check.same("no more than ten attempts", 1, run("tar9", "a0!11", 0, again.repeat(10) + "0:11:2 0:11:3").count(20));
        Check.same("no more than one", 98, run("ta;ta", "a0!99", 0, again + "0:11:2 0:11:3").count(20));
    }

    private static void delays() {
        Check.says("Items", "the next attempt begins after a delay, at once if the delay is 0");
        run("tar1", "a1!1", 1, "0:0:0 1:1:0 1:0:0");
        run("tar1+0", "a1!1", 1, "0:0:0 1:1:0 1:0:0");
        run("tar1+1", "a1!1", 1, "0:0:0 1:1:0");
        run("tar1+1", "a1!1", 2, "0:0:0 1:1:0 2:0:0");
        run("tar1+1", "a0!1", 0, "0:0:0 0:1:0");
        run("tar1+1", "a0!1", 1, "0:0:0 0:1:0 1:0:0 1:2:0 1:11:1");
        Check.says("Items", "The delay is the number after +, 0 without it, times 2 to the power of (the attempts so far minus 1).");
        for (int number : new int[] {1, 2, 3}) {
            StringBuilder history = new StringBuilder();
            for (int attempt = 1; attempt <= 7; attempt++) {
                int minute = number * ((1 << attempt - 1) - 1);
                history.append(minute).append(":0:0 ").append(minute).append(attempt < 7 ? ":1:0 " : ":2:0 ");
            }
            int end = number * 63;
            run("tar6+" + number, "a0!6", end, history + "" + end + ":11:1");
        }
        run("tar9", "a0!9", 0, "0:0:0 0:1:0 ".repeat(9) + "0:0:0 0:2:0 0:11:1");
        run("tar9+0", "a0!9", 0, "0:0:0 0:1:0 ".repeat(9) + "0:0:0 0:2:0 0:11:1");
        Check.says("Items", "An attempt that begins after a delay begins at the minute that is the end of the one before plus the delay.");
        run("tar3+3", "a2!2", 15, "0:0:0 2:1:0 5:0:0 7:1:0 13:0:0 15:2:0 15:11:1");
        run("tar1+5", "a99!1", 104, "0:0:0 99:1:0 104:0:0");
        run("tar1+5", "a99!1", 103, "0:0:0 99:1:0");
    }

    /** Ten attempts with the longest delays: the last ones lie beyond the last minute. */
    private static void longDelays() {
        WorkflowEngine engine = Check.engine("tar9+999");
        RunTest.settle(engine, "a0!9");
        engine.start(0);
        int minute = 0;
        for (int attempt = 1; attempt <= 7; attempt++) {
            int next = 999 * ((1 << attempt) - 1);
            Check.same("due after attempt " + attempt, next, engine.due(0));
            Check.same("failures", 9 - attempt, engine.count(20));
            if (next > 99999) {
                break;
            }
            for (; minute < next - 1; minute = engine.pass(Math.min(200, next - 1 - minute))) {
                Check.same("not yet", 2 * attempt, engine.instance(0, 8));
            }
            minute = engine.pass(1);
            Check.same("the next attempt", next, engine.entry(0, 2 * attempt, 0));
        }
        Check.same("the seventh attempt", 62937, engine.count(0));
        Check.same("the eighth is due", 126873, engine.due(0));
        for (; minute < 99999; minute = engine.pass(Math.min(200, 99999 - minute))) {
            Check.same("still running", 1, engine.running(0, -1));
        }
        Check.same("it is still due", 126873, engine.due(0));
        Check.same("ahead", 0, engine.ahead(0, 200));
    }

    private static void waits() {
        Check.says("Items", "A wait is done when its number of minutes has passed since it began.");
        run("w0;x0=1", "", 0, "0:8:0 0:11:1");
        run("w1;x0=1", "", 0, "");
        run("w1;x0=1", "", 1, "1:8:0 1:11:1");
        run("w2;w0;w3;x0=1", "", 4, "");
        run("w2;w0;w3;x0=1", "", 5, "5:8:0 5:11:1");
        WorkflowEngine engine = Check.started("w999");
        for (int minute : new int[] {200, 400, 600, 800, 998}) {
            engine.pass(minute - engine.count(0));
            Check.same("status at " + minute, 0, engine.instance(0, 0));
        }
        engine.pass(1);
        Check.same("ended", 999, engine.instance(0, 4));
    }

    private static void signals() {
        Check.says("Items", "A signal is done when its instance has a pending signal with its code, which is taken");
        WorkflowEngine engine = Check.started("w1;sa;sa;w9");
        engine.signal(0, 0);
        Check.same("not before it begins", 1, engine.instance(0, 20));
        engine.pass(1);
        Check.same("one is taken by one item", "1:3:0", Check.history(engine, 0));
        Check.same("pending", 0, engine.instance(0, 20));
        engine.pass(1);
        Check.same("none is there", "1:3:0", Check.history(engine, 0));
        engine.signal(0, 0);
        engine.signal(0, 0);
        engine.pass(1);
        Check.same("taken", "1:3:0 3:3:0", Check.history(engine, 0));
        Check.same("one is left", 1, engine.instance(0, 20));
        engine = Check.started("sa,3");
        for (int code = 1; code < 8; code++) {
            engine.signal(0, code);
        }
        engine.pass(2);
        Check.same("other codes", "", Check.history(engine, 0));
        engine.start(0);
        engine.signal(1, 0);
        engine.pass(1);
        Check.same("another instance's", "3:4:0 3:11:2 3:11:3", Check.history(engine, 0));
        Check.same("its own", "3:3:0 3:11:1", Check.history(engine, 1));
        engine = Check.started("(sa|sa|sa)");
        engine.signal(0, 0);
        engine.signal(0, 0);
        engine.pass(1);
        Check.same("the first bodies take them", "7", Check.running(engine, 0));
    }

    private static void signalMinutes() {
        Check.says("Items", "it fails when the number after the comma, if there is one, of minutes has passed since it began");
        run("sa,0", "", 0, "0:4:0 0:11:2 0:11:3");
        run("sa,1", "", 0, "");
        run("sa,1", "", 1, "1:4:0 1:11:2 1:11:3");
        run("w3;sa,2", "", 4, "");
        run("w3;sa,2", "", 5, "5:4:0 5:11:2 5:11:3");
        WorkflowEngine engine = Check.started("sh,999");
        engine.start(0);
        Check.define(engine, 0, "sh");
        engine.start(0);
        for (int minute : new int[] {200, 400, 600, 800, 998}) {
            engine.pass(minute - engine.count(0));
            Check.same("status at " + minute, 0, engine.instance(0, 0));
        }
        engine.signal(1, 7);
        engine.pass(1);
        Check.same("it fails", "999:4:7 999:11:2 999:11:3", Check.history(engine, 0));
        Check.says("Items", "and there is no such pending signal.");
        Check.same("it is taken in its last minute", "999:3:7 999:11:1", Check.history(engine, 1));
        for (int i = 0; i < 494; i++) {
            engine.pass(200);
        }
        engine.signal(2, 7);
        Check.same("without a number it waits", "", Check.history(engine, 2));
        engine.pass(1);
        Check.same("until there is one", "99800:3:7 99800:11:1", Check.history(engine, 2));
        engine = Check.started("w1;sa,0");
        engine.signal(0, 0);
        engine.pass(1);
        Check.same("no minutes, but a signal", "1:3:0 1:11:1", Check.history(engine, 0));
        engine = Check.started("sa,2");
        engine.pass(2);
        Check.same("too late", -3, engine.signal(0, 0));
    }

    private static void sets() {
        Check.says("Items", "A set changes the variable, with overflow, and is done.");
        // No text has room for so many sets that a variable would overflow: these are the most.
        Check.same("the greatest", 10989, run("x0=999" + ";x0+999".repeat(10), "", 0, "0:8:0 ".repeat(11) + "0:11:1").instance(0, 10));
        Check.same("the least", -9990, run("x3=-999" + ";x3+-999".repeat(9), "", 0, "0:8:3 ".repeat(10) + "0:11:1").instance(0, 13));
        Check.same("the same value", 0, run("x1=0;x1+0;x1=-0;x1+-0", "", 0, "0:8:1 0:8:1 0:8:1 0:8:1 0:11:1").instance(0, 11));
        Check.same("= sets", 2, run("x2=7;x2=2", "", 0, "0:8:2 0:8:2 0:11:1").instance(0, 12));
        Check.same("+ adds", 9, run("x2=7;x2+2", "", 0, "0:8:2 0:8:2 0:11:1").instance(0, 12));
        Check.same("- is less", 5, run("x2=7;x2+-2", "", 0, "0:8:2 0:8:2 0:11:1").instance(0, 12));
        Check.same("from 0", -2, run("x2+-2", "", 0, "0:8:2 0:11:1").instance(0, 12));
    }

    private static void choices() {
        Check.says("Items", "A choice begins the first body if the variable is less than the number, otherwise the second one");
        for (int number : new int[] {-999, -100, -2, -1, 0, 1, 2, 10, 998, 999}) {
            for (int variable = Math.max(-999, number - 1); variable <= Math.min(999, number + 1); variable++) {
                run("x0=" + variable + ";[x0<" + number + ":x1=1|x2=1]", "", 0, "0:8:0 0:8:" + (variable < number ? 1 : 2) + " 0:11:1");
            }
        }
        run("x0=999;x0+1;[x0<999:x1=1|x2=1]", "", 0, "0:8:0 0:8:0 0:8:2 0:11:1");
        run("x0=-999;x0+-1;[x0<-999:x1=1|x2=1]", "", 0, "0:8:0 0:8:0 0:8:1 0:11:1");
        run("[x3<0:x1=1|x2=1];[x3<-0:x1=1|x2=1];[x3<1:x1=1|x2=1]", "", 0, "0:8:2 0:8:2 0:8:1 0:11:1");
        run("([x0<1:w2;x1=1|x2=1]|w1;x0=5)", "", 2, "1:8:0 2:8:1 2:9:2 2:11:1");
        Check.says("Items", "and is done or fails with it.");
        run("[x0<1:w2|w9];x1=1", "", 1, "");
        run("[x0<1:w2|w9];x1=1", "", 2, "2:8:1 2:11:1");
        run("[x0<0:w9|sa,2];x1=1", "", 1, "");
        run("[x0<0:w9|sa,2];x1=1", "", 2, "2:4:0 2:11:2 2:11:3");
    }

    private static void parallels() {
        Check.says("Items", "A parallel begins all its bodies, in their order, and looks at those that run, in their order.");
        run("(ta|tb|tc|td)", "", 1, "0:0:0 0:0:1 0:0:2 0:0:3 1:2:0 1:2:1 1:2:2 1:2:3 1:9:4 1:11:1");
        run("(x0=1|x1=1|w9)q1", "", 0, "0:8:0 0:8:1 0:10:2 0:9:2 0:11:1");
        run("(sa,0|x1=1|w9)", "", 0, "0:4:0 0:8:1 0:10:2 0:11:2 0:11:3");
        run("(ta)", "", 1, "0:0:0 1:2:0 1:9:1 1:11:1");
        Check.says("In doubt", "All running bodies of a parallel are looked at before it is asked how many are done");
        run("(w1;x0=1|w1;x1=1|w2|w1;x2=1)q1", "", 1, "1:8:0 1:8:1 1:8:2 1:10:2 1:9:3 1:11:1");
        run("(sa,1|w1;x1=1|w1;x2=1)", "", 1, "1:4:0 1:8:1 1:8:2 1:11:2 1:11:3");
        run("(w1|sa,1)q1", "", 1, "1:4:0 1:9:1 1:11:1");
        Check.says("In doubt", "and each goes as far as it can before the next one begins");
        run("(ta;tb|tc;w1)", "a0 b0 c0", 0, "0:0:0 0:2:0 0:0:1 0:2:1 0:0:2 0:2:2");
        run("(x0=1;(x1=1|x2=1)|x3=1)", "", 0, "0:8:0 0:8:1 0:8:2 0:9:2 0:8:3 0:9:2 0:11:1");
        run("(x0=5|[x0<5:x1=1|x2=1])", "", 0, "0:8:0 0:8:2 0:9:2 0:11:1");
        run("([x0<5:x1=1|x2=1]|x0=5)", "", 0, "0:8:1 0:8:0 0:9:2 0:11:1");
    }

    private static void quorum() {
        Check.says("Items", "If after that as many bodies are done as the digit after q says, all of them without it,"
            + " the other ones that run are cancelled");
        for (int quorum = 1; quorum <= 4; quorum++) {
            StringBuilder history = new StringBuilder();
            for (int body = quorum; body < 4; body++) {
                history.append(quorum).append(":10:").append(body).append(' ');
            }
            String end = quorum + ":9:" + quorum + " " + quorum + ":11:1";
            run("(w1|w2|w3|w4)q" + quorum, "", quorum - 1, "");
            run("(w1|w2|w3|w4)q" + quorum, "", quorum, history + end);
            String bodies = "(w1" + "|w1".repeat(quorum - 1) + ")";
            run(bodies, "", 1, "1:9:" + quorum + " 1:11:1");
            run(bodies + "q" + quorum, "", 1, "1:9:" + quorum + " 1:11:1");
            run(bodies + "q1", "", 1, "1:9:" + quorum + " 1:11:1");
        }
        run("(w1|w2|w3|w4)", "", 3, "");
        run("(w1|w2|w3|w4)", "", 4, "4:9:4 4:11:1");
        run("(w1|w1|w1|w2)q2", "", 1, "1:10:3 1:9:3 1:11:1");
        run("(w4|w3|w2|w1)q2", "", 2, "2:10:0 2:10:1 2:9:2 2:11:1");
        Check.says("Items", "and the parallel is done when this has ended.");
        run("(w1|w9)q1;x0=1", "", 1, "1:10:1 1:9:1 1:8:0 1:11:1");
        run("(tacb;w9|w1)q1;x0=1", "b3", 3, "0:0:0 1:2:0 1:10:0 1:5:1");
        run("(tacb;w9|w1)q1;x0=1", "b3", 4, "0:0:0 1:2:0 1:10:0 1:5:1 4:6:0 4:9:1 4:8:0 4:11:1");
        Check.says("In doubt", "entry 9 comes behind the compensations.");
        run("(tacb;w9|w1)q1", "b0", 1, "0:0:0 1:2:0 1:10:0 1:5:1 1:6:0 1:9:1 1:11:1");
        run("(tacb;w9|w1)q1", "b0!3", 1, "0:0:0 1:2:0 1:10:0 1:5:1 1:5:1 1:5:1 1:7:0 1:9:1 1:11:1");
        run("(ta;w9|w1)q1", "", 1, "0:0:0 1:2:0 1:10:0 1:9:1 1:11:1");
    }

    private static void outOfReach() {
        Check.says("Items", "Otherwise, if so many can no longer be done, the other ones that run are cancelled and the parallel fails.");
        run("(sa,1|sb,2|w5|w5)q2", "", 5, "1:4:0 2:4:1 5:9:2 5:11:1");
        run("(sa,1|sb,2|w5|w6)q3", "", 1, "1:4:0");
        run("(sa,1|sb,2|w5|w6)q3", "", 2, "1:4:0 2:4:1 2:10:2 2:10:3 2:11:2 2:11:3");
        run("(sa,1|w5)", "", 1, "1:4:0 1:10:1 1:11:2 1:11:3");
        run("(w5|w5|w5|sa,1)q4", "", 1, "1:4:0 1:10:0 1:10:1 1:10:2 1:11:2 1:11:3");
        run("(w5|w5|w5|sa,1)q3", "", 5, "1:4:0 5:9:3 5:11:1");
        run("(w1|sa,2|w5)q2", "", 5, "2:4:0 5:9:2 5:11:1");
        run("(w1|sa,2|sb,3)q2", "", 3, "2:4:0 3:4:1 3:11:2 3:11:3");
        run("(sa,1|sb,1)q1", "", 1, "1:4:0 1:4:1 1:11:2 1:11:3");
        run("(sa,1|sb,2|sc,3|sd,4)q1", "", 4, "1:4:0 2:4:1 3:4:2 4:4:3 4:11:2 4:11:3");
        run("(sa,1)", "", 1, "1:4:0 1:11:2 1:11:3");
        run("(w1|sa,1)", "", 1, "1:4:0 1:11:2 1:11:3");
        Check.says("Items", "the parallel fails");
        // It compensates nothing itself: what was done in it is compensated by what it stands in.
        run("((tacb;w9|sa,1)|w5)q1", "", 6, "0:0:0 1:2:0 1:4:0 1:10:0 5:5:1 6:6:0 6:9:1 6:11:1");
        run("(tacb;w9|sa,1)", "b3", 4, "0:0:0 1:2:0 1:4:0 1:10:0 1:11:2 1:5:1 4:6:0 4:11:3");
    }

    private static void compensated() {
        Check.says("Items", "the tasks that were done in bodies that failed or were cancelled are compensated");
        run("(tacb;sa,1|w3)q1", "", 4, "0:0:0 1:2:0 2:4:0 3:5:1 4:6:0 4:9:1 4:11:1");
        run("(tacb;w9|w3)q1", "", 4, "0:0:0 1:2:0 3:10:0 3:5:1 4:6:0 4:9:1 4:11:1");
        run("(tacb|tccd;w9|w3)q2", "", 4, "0:0:0 0:0:2 1:2:0 1:2:2 3:10:1 3:5:3 4:6:2 4:9:2 4:11:1");
        run("(w3|w3|tacb)q2", "", 3, "0:0:0 1:2:0 3:9:3 3:11:1");
        run("(w3|w3|tacb;w2)q2", "", 3, "0:0:0 1:2:0 3:9:3 3:11:1");
        run("(w3|w3|tacb;w3)q2", "", 4, "0:0:0 1:2:0 3:10:2 3:5:1 4:6:0 4:9:2 4:11:1");
        run("tacb;(tccd;w9|w3)q1;tecf", "", 6, "0:0:0 1:2:0 1:0:2 2:2:2 4:10:0 4:5:3 5:6:2 5:9:1 5:0:4 6:2:4 6:11:1");
        // What was done beside the parallel is not, whichever body was cancelled.
        run("((w1|tacb;w9)q1|tccd;w9)", "", 2, "0:0:0 0:0:2 1:2:0 1:10:1 1:5:1 1:2:2 2:6:0 2:9:1");
        run("(tccd;w9|(tacb;w9|w1)q1|tecf;w9)", "", 3, "0:0:2 0:0:0 0:0:4 1:2:2 1:2:0 1:10:0 1:5:1 1:2:4 2:6:0 2:9:1");
        run("(tccd;w9|(w2|tacb;w9)q1|tecf;w9)", "", 4, "0:0:2 0:0:0 0:0:4 1:2:2 1:2:0 1:2:4 2:10:1 2:5:1 3:6:0 3:9:1");
        // Within a body that was cancelled: in a parallel that was done, and in a choice.
        run("((tacb|tccd);[x0<1:tecf;w9|w1]|w4)q1", "", 7,
            "0:0:0 0:0:2 1:2:0 1:2:2 1:9:2 1:0:4 2:2:4 4:10:0 4:5:5 5:6:4 5:5:3 6:6:2 6:5:1 7:6:0 7:9:1 7:11:1");
    }

    private static void cancelled() {
        Check.says("Items", "What is cancelled ends at once");
        WorkflowEngine engine = run("(ta|sb,5|(w7|tc))q1;w9", "a0 c9", 0, "0:0:0 0:2:0 0:0:2 0:10:1 0:10:2 0:9:1");
        Check.same("only the next item runs", "20", Check.running(engine, 0));
        Check.same("and is due", 9, engine.due(0));
        engine.signal(0, 1);
        engine.pass(8);
        Check.same("a cancelled signal takes nothing", 1, engine.instance(0, 21));
        Check.same("nothing comes of it", "0:0:0 0:2:0 0:0:2 0:10:1 0:10:2 0:9:1", Check.history(engine, 0));
        Check.says("Items", "an attempt in it has no effect.");
        engine = run("(ta|w1)q1;w9", "a2!1", 5, "0:0:0 1:10:0 1:9:1");
        Check.same("no failure is taken", 1, engine.count(20));
        engine = run("(ta|w2)q1;w9", "a2", 5, "0:0:0 2:2:0 2:9:2");
        Check.same("a minute later it ends", 1, engine.instance(0, 5));
        run("(tar1+5|w3)q1;w9", "a2!1", 9, "0:0:0 2:1:0 3:10:0 3:9:1");
    }
}
