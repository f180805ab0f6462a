/** Promises 13 to 19 and 22: instance, entry, running, due, ahead, replayed, statistic, count. */
public final class QuestionTest {
    private static final int[] NO_INSTANCES = {-1, 1, 5, 6, Integer.MIN_VALUE, Integer.MAX_VALUE};

    public static void main(String[] args) {
        instance();
        entry();
        longHistory();
        running();
        due();
        dueIsWhenSomethingHappens();
        ahead();
        replayed();
        statuses();
        floats();
        count();
        Check.end();
    }

    private static void instance() {
        WorkflowEngine engine = Check.engine("w1", "tacb;x2=7;tc;sd");
        engine.pass(3);
        engine.start(0);
        int[] begun = {0, 0, 1, 3, -5, 0, 0, 0, 1};
        int[] halfway = {0, 0, 1, 3, -5, 2, 0, 0, 5};
        int[] aborted = {3, 0, 1, 3, 6, 2, 1, 0, 9};
        properties(engine, begun);
        engine.pass(2);
        properties(engine, halfway);
        Check.same("variable", 7, engine.instance(0, 12));
        Check.same("another variable", 0, engine.instance(0, 11));
        engine.signal(0, 7);
        engine.signal(0, 7);
        Check.same("pending", 2, engine.instance(0, 27));
        Check.same("pending of another code", 0, engine.instance(0, 20));
        engine.abort(0);
        Check.same("not ended", -5, engine.instance(0, 4));
        engine.pass(1);
        properties(engine, aborted);
        for (int what : new int[] {-1, 9, 14, 19, 28, Integer.MIN_VALUE, Integer.MAX_VALUE}) {
            Check.same("instance what " + what, -1, engine.instance(0, what));
        }
        for (int none : NO_INSTANCES) {
            Check.same("instance " + none, -1, engine.instance(none, 0));
        }
        Check.define(engine, 3, "w0");
        engine.start(3);
        Check.same("workflow", 3, engine.instance(1, 1));
        Check.same("completed", 1, engine.instance(1, 0));
    }

    private static void properties(WorkflowEngine engine, int[] due) {
        for (int what = 0; what < due.length; what++) {
            Check.same("instance 0 " + what, due[what], engine.instance(0, what));
        }
    }

    private static void entry() {
        WorkflowEngine engine = Check.started("w4;tf");
        Check.same("no entry yet", -1, engine.entry(0, 0, 0));
        engine.pass(4);
        Check.same("minute", 4, engine.entry(0, 0, 0));
        Check.same("kind", 0, engine.entry(0, 0, 1));
        Check.same("value", 5, engine.entry(0, 0, 2));
        for (int wrong : new int[] {-1, 3, Integer.MIN_VALUE, Integer.MAX_VALUE}) {
            Check.same("entry what " + wrong, -1, engine.entry(0, 0, wrong));
        }
        for (int wrong : new int[] {-1, 1, 199, 200, 201, Integer.MIN_VALUE, Integer.MAX_VALUE}) {
            Check.same("entry " + wrong, -1, engine.entry(0, wrong, 0));
        }
        for (int none : NO_INSTANCES) {
            Check.same("entry of " + none, -1, engine.entry(none, 0, 0));
        }
        for (int i = 0; i < 499; i++) {
            engine.pass(200);
        }
        engine.pass(195);
        Check.define(engine, 0, "x3=1");
        engine.start(0);
        Check.same("the last minute", "99999:8:3 99999:11:1", Check.history(engine, 1));
    }

    /** 16 tasks with ten attempts each make 320 entries and one for the end. */
    private static void longHistory() {
        WorkflowEngine engine = Check.started("tar9;".repeat(15) + "tar9");
        for (int i = 0; i < 16; i++) {
            engine.failures(0, 9);
            engine.pass(10);
        }
        Check.same("status", 1, engine.instance(0, 0));
        Check.same("entries", 321, engine.instance(0, 8));
        Check.same("the last kept one", 2, engine.entry(0, 199, 1));
        Check.same("its minute", 100, engine.entry(0, 199, 0));
        Check.same("one not kept", -1, engine.entry(0, 200, 0));
        Check.same("tasks", 16, engine.instance(0, 5));
        int[] due = {0, 10, 0, 0, 100, 90};
        for (int what = 0; what < 6; what++) {
            Check.same("replayed " + what, due[what], engine.replayed(0, what));
        }
    }

    private static void running() {
        WorkflowEngine engine = Check.started("((w9|sa)|tb;w5|[x0<1:tcr1+9|w1]|x0=1);w1");
        engine.failures(2, 1);
        Check.same("running", "2 5 9 21", Check.running(engine, 0));
        Check.same("number", 4, engine.running(0, -1));
        engine.pass(1);
        Check.same("a task between two attempts runs", "2 5 12 21", Check.running(engine, 0));
        engine.signal(0, 0);
        engine.pass(1);
        Check.same("running", "2 12 21", Check.running(engine, 0));
        for (int i : new int[] {-2, 3, 24, Integer.MIN_VALUE, Integer.MAX_VALUE}) {
            Check.same("running " + i, -1, engine.running(0, i));
        }
        for (int none : NO_INSTANCES) {
            Check.same("running in " + none, -1, engine.running(none, 0));
            Check.same("running in " + none, -1, engine.running(none, -1));
        }
        engine.abort(0);
        Check.same("nothing runs when it is compensated", 0, engine.running(0, -1));
        Check.same("nothing runs when it is compensated", -1, engine.running(0, 0));
        engine = Check.started("tf;w1");
        Check.same("the first item", 1, engine.running(0, -1));
        Check.same("the first item", 0, engine.running(0, 0));
        engine.pass(1);
        Check.same("the second item", "3", Check.running(engine, 0));
        engine = Check.started("((tacb;w9|w1)q1|w7)");
        engine.duration(1, 4);
        engine.pass(2);
        Check.same("a compensation is no item", "16", Check.running(engine, 0));
        engine.abort(0);
        Check.same("compensating", 2, engine.instance(0, 0));
        Check.same("nothing runs when it compensates", "", Check.running(engine, 0));
    }

    private static void due() {
        WorkflowEngine engine = Check.started("(w9|sa,4|tbr1+9)q2;sc;tdce;sf");
        for (int none : NO_INSTANCES) {
            Check.same("due " + none, -1, engine.due(none));
        }
        engine.failures(1, 1);
        Check.same("the end of an attempt", 1, engine.due(0));
        engine.pass(1);
        Check.same("the end of a signal", 4, engine.due(0));
        engine.signal(0, 0);
        Check.same("a pending signal does not count", 4, engine.due(0));
        engine.pass(1);
        Check.same("the end of a wait", 9, engine.due(0));
        engine.pass(7);
        Check.same("a signal without minutes", -5, engine.due(0));
        engine.signal(0, 2);
        engine.pass(1);
        Check.same("the end of an attempt", 11, engine.due(0));
        engine.pass(1);
        Check.same("a signal without minutes", -5, engine.due(0));
        engine.duration(4, 99);
        engine.abort(0);
        Check.same("the end of an attempt of a compensation", 110, engine.due(0));
        engine.pass(99);
        Check.same("it has ended", -5, engine.due(0));
        engine = Check.started("tar1+999");
        engine.failures(0, 1);
        engine.pass(1);
        Check.same("an attempt begins", 1000, engine.due(0));
        engine = Check.started("(w8|(tacb;w9|w1)q1)");
        engine.duration(1, 3);
        engine.pass(1);
        Check.same("a compensation of a parallel", 4, engine.due(0));
    }

    /** Without signals, the first minute at which a history or what runs changes is the one that is due. */
    private static void dueIsWhenSomethingHappens() {
        Texts texts = new Texts(new java.util.Random(5));
        for (int run = 0; run < 300; run++) {
            WorkflowEngine engine = new WorkflowEngine();
            if (Check.define(engine, 0, texts.right()) != 0) {
                continue;
            }
            for (int code = 0; code < 8; code++) {
                engine.duration(code, (run + 3 * code) % 5);
                engine.failures(code, (run + code) % 4);
            }
            engine.start(0);
            for (int i = 0; i < 30; i++) {
                int due = engine.due(0);
                String before = Check.history(engine, 0) + "/" + Check.running(engine, 0);
                int passed = 0;
                while (passed < 40 && before.equals(Check.history(engine, 0) + "/" + Check.running(engine, 0))) {
                    engine.pass(1);
                    passed++;
                }
                boolean changed = !before.equals(Check.history(engine, 0) + "/" + Check.running(engine, 0));
                if (changed) {
                    Check.same("due", engine.count(0), due);
                } else {
                    Check.same("nothing before it is due", 1, due == -5 || due > engine.count(0) ? 1 : 0);
                }
            }
        }
    }

    private static void ahead() {
        WorkflowEngine engine = Check.started("tar1cb;w2;sc,5");
        Check.define(engine, 1, "w1;ta");
        engine.start(1);
        engine.failures(0, 1);
        for (int none : new int[] {-1, 2, 6, Integer.MIN_VALUE, Integer.MAX_VALUE}) {
            Check.same("ahead of " + none, -1, engine.ahead(none, 1));
            Check.same("ahead of " + none, -1, engine.ahead(none, 0));
        }
        for (int n : new int[] {-1, 0, 201, Integer.MIN_VALUE, Integer.MAX_VALUE}) {
            Check.same("ahead " + n, -2, engine.ahead(0, n));
        }
        String before = Check.state(engine);
        Check.same("ahead", 0, engine.ahead(0, 8));
        Check.same("ahead", 2, engine.ahead(0, 9));
        Check.same("ahead", 3, engine.ahead(0, 10));
        Check.same("ahead", 3, engine.ahead(0, 200));
        Check.same("the failure meets the first one", 1, engine.ahead(1, 2));
        Check.same("nothing has changed", before, Check.state(engine));
        engine.signal(0, 2);
        Check.same("a pending signal counts", 1, engine.ahead(0, 4));
        Check.same("ahead", 0, engine.ahead(0, 3));
        for (int i = 0; i < 499; i++) {
            engine.pass(200);
        }
        engine.pass(199);
        Check.same("beyond the last minute", 1, engine.ahead(0, 200));
        engine.remove(0);
        engine.remove(1);
        Check.define(engine, 2, "w150");
        engine.start(2);
        Check.same("beyond the last minute", 0, engine.ahead(0, 149));
        Check.same("beyond the last minute", 1, engine.ahead(0, 150));
    }

    private static void replayed() {
        WorkflowEngine engine = Check.started("tar2cb;tdce;tf;sg,0");
        engine.failures(0, 2);
        engine.failures(4, 3);
        engine.failures(1, 1);
        Check.same("running", 0, engine.replayed(0, 0));
        Check.same("attempts", 1, engine.replayed(0, 4));
        engine.pass(5);
        Check.same("compensating", 2, engine.replayed(0, 0));
        engine.pass(100);
        Check.define(engine, 1, "w1");
        engine.start(1);
        engine.pass(1);
        Check.same("the first entry is the status", 1, engine.replayed(1, 0));
        engine.remove(1);
        int[] due = {4, 3, 1, 1, 5 + 3 + 2, 2};
        for (int what = 0; what < 6; what++) {
            Check.same("replayed " + what, due[what], engine.replayed(0, what));
        }
        for (int what : new int[] {-1, 6, Integer.MIN_VALUE, Integer.MAX_VALUE}) {
            Check.same("replayed " + what, -1, engine.replayed(0, what));
        }
        for (int none : NO_INSTANCES) {
            Check.same("replayed of " + none, -1, engine.replayed(none, 0));
        }
    }

    private static void statuses() {
        WorkflowEngine engine = Check.engine("w9", "tacb;sa");
        engine.failures(1, 3);
        engine.duration(1, 2);
        for (int i = 0; i < 4; i++) {
            engine.start(0);
        }
        Check.define(engine, 1, "w1");
        engine.start(1);
        engine.pass(1);
        engine.abort(0);
        engine.pass(6);
        engine.abort(1);
        engine.pass(2);
        engine.abort(2);
        engine.signal(3, 0);
        engine.pass(1);
        Check.define(engine, 0, "w0");
        engine.start(0);
        int[] due = {0, 2, 1, 1, 1, 5};
        int[] other = {0, 1, 0, 0, 0, 1};
        for (int what = 0; what < 6; what++) {
            Check.same("statistic 0 " + what, due[what], engine.statistic(0, what));
            Check.same("statistic 1 " + what, other[what], engine.statistic(1, what));
            Check.same("statistic 2 " + what, 0, engine.statistic(2, what));
        }
        Check.same("mean", Float.floatToIntBits((7 + 9 + 10 + 0) / 4f), engine.statistic(0, 6));
        Check.same("share", Float.floatToIntBits(0.5f), engine.statistic(0, 7));
        Check.same("no mean", -5, engine.statistic(2, 6));
        Check.same("no share", -5, engine.statistic(2, 7));
        engine.remove(5);
        Check.same("those removed do not count", Float.floatToIntBits(26 / 3f), engine.statistic(0, 6));
        Check.same("those removed do not count", Float.floatToIntBits(1 / 3f), engine.statistic(0, 7));
        engine.remove(0);
        Check.define(engine, 3, "sh");
        engine.start(3);
        Check.same("a running one counts", 1, engine.statistic(3, 5));
        Check.same("running", 1, engine.statistic(3, 0));
        for (int wrong : new int[] {-1, 8, Integer.MIN_VALUE, Integer.MAX_VALUE}) {
            Check.same("statistic what " + wrong, -1, engine.statistic(0, wrong));
            Check.same("statistic without any", -1, engine.statistic(2, wrong));
            Check.same("statistic of " + wrong, -1, engine.statistic(wrong < 8 ? wrong : 4, 6));
        }
    }

    /** Means of up to six instances that took up to some thousand minutes each. */
    private static void floats() {
        java.util.Random random = new java.util.Random(8);
        for (int run = 0; run < 400; run++) {
            WorkflowEngine engine = Check.engine("sa");
            int[] starts = new int[1 + random.nextInt(6)];
            for (int i = 0; i < starts.length; i++) {
                engine.start(0);
                starts[i] = engine.count(0);
                engine.pass(1 + random.nextInt(random.nextBoolean() ? 2 : 200));
            }
            int minutes = 0;
            int completed = 0;
            for (int i = 0; i < starts.length; i++) {
                for (int j = random.nextInt(6); j > 0; j--) {
                    engine.pass(1 + random.nextInt(200));
                }
                if (random.nextBoolean()) {
                    engine.abort(i);
                } else {
                    engine.signal(i, 0);
                    engine.pass(1);
                    completed++;
                }
                minutes += engine.count(0) - starts[i];
            }
            Check.same("mean", Float.floatToIntBits((float) minutes / starts.length), engine.statistic(0, 6));
            Check.same("share", Float.floatToIntBits((float) completed / starts.length), engine.statistic(0, 7));
        }
    }

    private static void count() {
        WorkflowEngine engine = Check.engine("tacb;sc", "tacb;sc");
        Check.define(engine, 2, "sa");
        engine.pass(7);
        engine.start(0);
        engine.start(2);
        engine.start(0);
        engine.start(2);
        engine.pass(1);
        engine.abort(0);
        engine.abort(1);
        engine.feed('t');
        int[] due = {8, 4, 2, 1, 1, 3};
        for (int what = 0; what < due.length; what++) {
            Check.same("count " + what, due[what], engine.count(what));
        }
        engine.duration(7, 70);
        engine.failures(7, 71);
        Check.same("duration", 70, engine.count(17));
        Check.same("failures", 71, engine.count(27));
        for (int what : new int[] {-1, 6, 9, 18, 19, 28, Integer.MIN_VALUE, Integer.MAX_VALUE}) {
            Check.same("count " + what, -1, engine.count(what));
        }
    }
}
