/**
 * States of an engine in which calls are refused or asked, and the question whether such a call left anything
 * behind: of two engines in the same state one gets the call, and both go on alike for as long as they are watched.
 */
final class Scenes {
    /** A right text, so that define tells what is on the tape. */
    static final String ON_TAPE = "tbr1+3;x2=7";
    /** The numbers of the instances in the busy scene. */
    static final int RUNNING = 0, COMPLETED = 1, COMPENSATING = 2, COMPENSATED = 3, BROKEN = 4, FREE = 5;
    /** The workflows of the busy scene: with two versions, with one, without one, with all four. */
    static final int TWO = 0, ONE = 1, EMPTY = 2, ALL = 3;

    interface Scene {
        WorkflowEngine made();
    }

    interface Call {
        int on(WorkflowEngine engine);
    }

    private Scenes() {
    }

    static WorkflowEngine fresh() {
        return new WorkflowEngine();
    }

    /** Minute 12: an instance in each status and one free, a snapshot of minute 0, a wrong text, and one on the tape. */
    static WorkflowEngine busy() {
        WorkflowEngine engine = new WorkflowEngine();
        Check.same("define", 0, Check.define(engine, TWO, "sb"));
        Check.same("define", 1, Check.define(engine, TWO, "tacb;sa"));
        Check.same("define", 0, Check.define(engine, ONE, "(tar2+3cb;w60|sc,90|(tdce;w99|w30)q1)q2;tf"));
        for (int i = 0; i < 4; i++) {
            Check.same("define", i, Check.define(engine, ALL, "x1=" + i + ";w" + i));
        }
        int[] workflows = {ONE, ALL, TWO, TWO, TWO};
        for (int i = 0; i < 5; i++) {
            Check.same("start", i, engine.start(workflows[i]));
        }
        engine.image();
        engine.pass(4);
        engine.abort(COMPENSATED);
        engine.pass(2);
        engine.failures(1, 3);
        engine.abort(BROKEN);
        engine.pass(6);
        engine.duration(1, 5);
        engine.abort(COMPENSATING);
        for (int i = 0; i < 9; i++) {
            engine.signal(RUNNING, 4);
        }
        engine.signal(RUNNING, 7);
        engine.failures(5, 1);
        Check.same("define", -104, Check.define(engine, EMPTY, "((((("));
        feed(engine, ON_TAPE);
        for (int status = 0; status < 5; status++) {
            Check.same("status", status, engine.instance(status, 0));
        }
        Check.same("minute", 12, engine.count(0));
        return engine;
    }

    /** The busy scene with six instances. */
    static WorkflowEngine crowded() {
        WorkflowEngine engine = busy();
        Check.same("start", FREE, engine.start(TWO));
        return engine;
    }

    /** The busy scene with a right text of 80 bytes on the tape. */
    static WorkflowEngine fullTape() {
        WorkflowEngine engine = busy();
        feed(engine, ";x2+10".repeat(9) + ";x2+1".repeat(3));
        Check.same("bytes", 80, engine.count(4));
        return engine;
    }

    /** The last minute, with an instance that waits. */
    static WorkflowEngine late() {
        return at(99999);
    }

    /** A minute that is reached by passing, with an instance that waits. */
    static WorkflowEngine at(int minute) {
        WorkflowEngine engine = Check.engine("sa,5;tacb");
        for (int i = 0; i < minute / 200; i++) {
            engine.pass(200);
        }
        if (minute % 200 > 0) {
            engine.pass(minute % 200);
        }
        Check.same("minute", minute, engine.count(0));
        Check.same("start", 0, engine.start(0));
        feed(engine, ON_TAPE);
        return engine;
    }

    private static void feed(WorkflowEngine engine, String text) {
        for (int i = 0; i < text.length(); i++) {
            engine.feed(text.charAt(i));
        }
    }

    static void refused(String call, int due, Call refused) {
        refused(call, due, Scenes::busy, refused);
    }

    /** A refused call answers its code, and nothing can be told from what follows. */
    static void refused(String call, int due, Scene scene, Call refused) {
        WorkflowEngine engine = scene.made();
        Check.same(call, due, refused.on(engine));
        Check.same(call + " and again", due, refused.on(engine));
        Check.same("what follows " + call, future(scene.made()), future(engine));
    }

    /** A question answers, and nothing can be told from what follows. */
    static void asked(String call, int due, Call question) {
        refused(call, due, question);
    }

    /** What all questions answer now and later, the tape's text and the snapshot's state included. */
    private static String future(WorkflowEngine engine) {
        StringBuilder text = new StringBuilder(Check.state(engine));
        for (int n : new int[] {1, 4}) {
            text.append(engine.pass(n)).append(Check.state(engine));
        }
        text.append(engine.remove(COMPLETED)).append(engine.define(EMPTY)).append(engine.start(EMPTY));
        for (int n : new int[] {1, 20, 60}) {
            text.append(engine.pass(n)).append(Check.state(engine));
        }
        text.append(engine.abort(RUNNING)).append(engine.pass(9)).append(Check.state(engine));
        text.append(engine.undo()).append(Check.state(engine)).append(engine.pass(3)).append(Check.state(engine));
        return text.toString();
    }

    /** The numbers just outside a range, and those far outside. */
    static int[] outside(int least, int greatest) {
        return new int[] {least - 1, greatest + 1, Integer.MIN_VALUE, Integer.MAX_VALUE};
    }
}
