import java.util.Random;

/** Promises 20 and 21, image and undo, and what 'Errors' says of answers that change nothing. */
public final class SnapshotTest {
    public static void main(String[] args) {
        undo();
        everythingButTheTape();
        versions();
        aheadIsPassAndUndo();
        errorsChangeNothing();
        Check.end();
    }

    private static void undo() {
        WorkflowEngine engine = new WorkflowEngine();
        Check.same("undo without a snapshot", -3, engine.undo());
        Check.same("image", 0, engine.image());
        Check.define(engine, 0, "sa");
        engine.start(0);
        engine.start(0);
        Check.same("image in place of an earlier one", 2, engine.image());
        engine.start(0);
        engine.pass(9);
        Check.same("undo", 2, engine.undo());
        Check.same("minute", 0, engine.count(0));
        engine.pass(3);
        Check.same("the snapshot stays", 2, engine.undo());
        Check.same("minute", 0, engine.count(0));
        engine.start(0);
        Check.same("image", 3, engine.image());
        engine.abort(1);
        engine.remove(1);
        Check.same("instances", 2, engine.count(1));
        Check.same("undo", 3, engine.undo());
        Check.same("instances", 3, engine.count(1));
    }

    private static void everythingButTheTape() {
        WorkflowEngine engine = Check.engine("((tacb;w9|w1)q1|x1=5;sd,9|ter3+2cf);tg");
        Check.define(engine, 1, "ti");
        engine.failures(4, 9);
        engine.failures(1, 1);
        engine.duration(1, 4);
        engine.start(0);
        engine.pass(3);
        engine.signal(0, 7);
        engine.image();
        Check.define(engine, 2, "");
        Check.same("wrong", 0, engine.wrong(0));
        engine.undo();
        Check.same("wrong", 1, engine.wrong(0));
        engine.feed('w');
        String before = Check.state(engine);
        engine.define(2);
        Check.define(engine, 0, "w9");
        engine.failures(4, 0);
        engine.duration(3, 77);
        engine.signal(0, 3);
        engine.pass(2);
        engine.start(0);
        engine.abort(0);
        engine.pass(100);
        engine.remove(0);
        Check.define(engine, 3, "x2=9;".repeat(15) + "ta");
        engine.start(3);
        engine.feed('w');
        engine.undo();
        Check.same("the tape is not restored, though its length may be the same", 1, engine.count(4));
        Check.same("all is as before", before, Check.state(engine));
        engine.feed('5');
        Check.same("the tape", 1, Check.define(engine, 0, ""));
        Check.same("its text", 2, engine.version(0, 1, 3));
        engine.undo();
        engine.pass(50);
        engine.undo();
        Check.same("the tape is empty", 0, engine.count(4));
        engine.feed('w');
        Check.same("all is as before", before, Check.state(engine));
        String later = twenty(engine);
        engine.undo();
        Check.same("it goes on as before", later, twenty(engine));
    }

    private static String twenty(WorkflowEngine engine) {
        engine.pass(20);
        return Check.state(engine);
    }

    /** A version that is undone makes room for another one, and the instances keep theirs. */
    private static void versions() {
        WorkflowEngine engine = Check.started("ta;w3");
        engine.image();
        Check.same("define", 1, Check.define(engine, 0, "w1;w2;w3"));
        engine.start(0);
        engine.undo();
        Check.same("versions", 1, engine.count(5));
        Check.same("the undone version", -1, engine.version(0, 1, 0));
        Check.same("define another one", 1, Check.define(engine, 0, "(tb|tc)"));
        Check.same("its items", 3, engine.version(0, 1, 0));
        engine.start(0);
        engine.pass(2);
        Check.same("the older one", "0:0:0 1:2:0", Check.history(engine, 0));
        Check.same("the newer one", "0:0:1 0:0:2 1:2:1 1:2:2 1:9:2 1:11:1", Check.history(engine, 1));
        engine.image();
        Check.same("define a third one", 2, Check.define(engine, 0, "w0"));
        engine.undo();
        Check.same("the second one is still there", 3, engine.version(0, -1, 0));
        Check.same("its instance too", 1, engine.instance(1, 2));
        Check.same("a wrong text", -101, Check.define(engine, 0, "tz"));
        Check.same("the second one is still there", 3, engine.version(0, -1, 0));
    }

    private static void aheadIsPassAndUndo() {
        Random random = new Random(77);
        Texts texts = new Texts(random);
        for (int run = 0; run < 400; run++) {
            WorkflowEngine engine = new WorkflowEngine();
            for (int i = 0; i < 3; i++) {
                if (Check.define(engine, 0, texts.right()) >= 0) {
                    engine.start(0);
                }
                engine.failures(random.nextInt(8), random.nextInt(6));
                engine.duration(random.nextInt(8), random.nextInt(4));
                engine.pass(1 + random.nextInt(3));
            }
            int n = 1 + random.nextInt(20);
            int[] ahead = {engine.ahead(0, n), engine.ahead(1, n), engine.ahead(2, n)};
            engine.image();
            engine.pass(n);
            for (int i = 0; i < 3; i++) {
                Check.same("ahead", engine.instance(i, 0), ahead[i]);
            }
            engine.undo();
        }
    }

    /** Calls with any numbers: an answer below zero that is no change, and a question, leave all as it was. */
    private static void errorsChangeNothing() {
        Random random = new Random(3);
        int[] numbers = {Integer.MIN_VALUE, Integer.MIN_VALUE + 9, -100, -6, -5, -2, -1, 0, 1, 2, 3, 4, 5, 6, 7, 8, 9, 10,
            13, 20, 27, 30, 79, 99, 100, 127, 128, 199, 200, 201, 99999, 100000, Integer.MAX_VALUE - 20, Integer.MAX_VALUE};
        for (int run = 0; run < 60; run++) {
            WorkflowEngine engine = Check.engine("(tar1cb;w3|sc,2)q1;td", "((tacb;w9|w1)q1|sd)q1");
            for (int i = 0; i < 8; i++) {
                engine.duration(i, random.nextInt(4));
                engine.failures(i, random.nextInt(4));
            }
            for (int call = 0; call < 120; call++) {
                int a = numbers[random.nextInt(numbers.length)];
                int b = numbers[random.nextInt(numbers.length)];
                int c = numbers[random.nextInt(numbers.length)];
                int which = random.nextInt(21);
                String before = Check.state(engine);
                int answer = call(engine, which, a, b, c);
                boolean asks = which == 2 || which == 3 || which >= 11 && which <= 17 || which == 20;
                boolean error = answer < 0 && answer > -5;
                if (asks || error) {
                    Check.same("call " + which + " with " + a + ", " + b + ", " + c, before, Check.state(engine));
                }
            }
        }
    }

    private static int call(WorkflowEngine engine, int which, int a, int b, int c) {
        switch (which) {
            case 0: return engine.feed(a);
            case 1: return engine.define(a);
            case 2: return engine.wrong(a);
            case 3: return engine.version(a, b, c);
            case 4: return engine.duration(a, b);
            case 5: return engine.failures(a, b);
            case 6: return engine.start(a);
            case 7: return engine.signal(a, b);
            case 8: return engine.abort(a);
            case 9: return engine.remove(a);
            case 10: return engine.pass(a);
            case 11: return engine.instance(a, b);
            case 12: return engine.entry(a, b, c);
            case 13: return engine.running(a, b);
            case 14: return engine.due(a);
            case 15: return engine.ahead(a, b);
            case 16: return engine.replayed(a, b);
            case 17: return engine.statistic(a, b);
            case 18: return engine.image();
            case 19: return engine.undo();
            default: return engine.count(a);
        }
    }
}
