import java.util.Random;

/** Random runs of calls, each answer beside the one of the model. */
public final class ModelTest {
    private static final int RUNS = 4000;
    private static int wrong = 0;
    private static long answers = 0;
    private static final long[] statuses = new long[5];
    private static final long[] kinds = new long[12];

    public static void main(String[] args) {
        int runs = args.length > 0 ? Integer.parseInt(args[0]) : RUNS;
        long seed = args.length > 1 ? Long.parseLong(args[1]) : 1;
        for (int run = 0; run < runs && wrong < 5; run++) {
            run(seed * 1000003 + run);
        }
        StringBuilder seen = new StringBuilder("statuses at the end");
        for (long status : statuses) {
            seen.append(' ').append(status);
        }
        seen.append(", entries of each kind");
        for (long kind : kinds) {
            seen.append(' ').append(kind);
        }
        System.out.println(runs + " runs, " + answers + " answers, " + wrong + " not as due; " + seen);
        System.exit(wrong == 0 ? 0 : 1);
    }

    private static void run(long seed) {
        Random random = new Random(seed);
        WorkflowEngine engine = new WorkflowEngine();
        Model model = new Model();
        Texts texts = new Texts(random);
        StringBuilder calls = new StringBuilder("run " + seed + ":");
        int before = wrong;
        int workflows = 1 + random.nextInt(4);
        boolean calm = random.nextBoolean();
        for (int call = 0; call < 512 && wrong == before; ) {
            int sort = random.nextInt(100);
            int instance = random.nextInt(7) - (random.nextInt(20) == 0 ? 1 : 0);
            if (sort < 4) {
                String text = texts.text();
                for (int i = 0; i < text.length(); i++) {
                    same("feed " + text.charAt(i), model.feed(text.charAt(i)), engine.feed(text.charAt(i)), calls);
                    call++;
                }
                int workflow = random.nextInt(workflows) - (random.nextInt(20) == 0 ? 1 : 0);
                same("define " + workflow, model.define(workflow), engine.define(workflow), calls);
                same("wrong 0", model.wrong(0), engine.wrong(0), calls);
                same("wrong 1", model.wrong(1), engine.wrong(1), calls);
            } else if (sort < 18) {
                int workflow = random.nextInt(workflows);
                same("start " + workflow, model.start(workflow), engine.start(workflow), calls);
            } else if (sort < 40) {
                int n = random.nextInt(4) == 0 ? random.nextInt(203) - 1 : 1 + random.nextInt(3);
                same("pass " + n, model.pass(n), engine.pass(n), calls);
            } else if (sort < 48) {
                int code = random.nextInt(8);
                int n = calm && random.nextInt(3) > 0 ? random.nextInt(3) : random.nextInt(10);
                same("failures " + code + " " + n, model.failures(code, n), engine.failures(code, n), calls);
            } else if (sort < 54) {
                int code = random.nextInt(8);
                int n = random.nextInt(5);
                same("duration " + code + " " + n, model.duration(code, n), engine.duration(code, n), calls);
            } else if (sort < 64) {
                int code = random.nextInt(random.nextBoolean() ? 3 : 8);
                same("signal " + instance + " " + code, model.signal(instance, code), engine.signal(instance, code),
                    calls);
            } else if (sort < 67) {
                same("abort " + instance, model.abort(instance), engine.abort(instance), calls);
            } else if (sort < 73) {
                same("remove " + instance, model.remove(instance), engine.remove(instance), calls);
            } else if (sort < 75) {
                same("image", model.image(), engine.image(), calls);
            } else if (sort < 77) {
                same("undo", model.undo(), engine.undo(), calls);
            } else if (sort < 82) {
                int n = random.nextInt(3) == 0 ? random.nextInt(203) - 1 : 1 + random.nextInt(6);
                same("ahead " + instance + " " + n, model.ahead(instance, n), engine.ahead(instance, n), calls);
            } else {
                questions(random, model, engine, calls);
            }
            call++;
        }
        everything(model, engine, calls);
        if (wrong > before) {
            System.out.println(calls);
        }
    }

    private static void questions(Random random, Model model, WorkflowEngine engine, StringBuilder calls) {
        int instance = random.nextInt(6);
        int what = random.nextInt(30) - 1;
        int i = random.nextInt(12) - 1;
        same("instance " + instance + " " + what, model.instance(instance, what), engine.instance(instance, what), calls);
        same("due " + instance, model.due(instance), engine.due(instance), calls);
        same("running " + instance + " " + i, model.running(instance, i), engine.running(instance, i), calls);
        same("count " + what, model.count(what), engine.count(what), calls);
        same("statistic 0 " + what, model.statistic(0, what), engine.statistic(0, what), calls);
    }

    /** Every question in the state in which a run ends. */
    private static void everything(Model model, WorkflowEngine engine, StringBuilder calls) {
        for (int what = -1; what < 30; what++) {
            same("count " + what, model.count(what), engine.count(what), calls);
        }
        for (int workflow = -1; workflow < 5; workflow++) {
            for (int what = -1; what < 9; what++) {
                same("statistic", model.statistic(workflow, what), engine.statistic(workflow, what), calls);
                for (int version = -2; version < 5; version++) {
                    same("version", model.version(workflow, version, what), engine.version(workflow, version, what),
                        calls);
                }
            }
        }
        for (int instance = -1; instance < 7; instance++) {
            for (int what = -1; what < 30; what++) {
                same("instance " + instance + " " + what, model.instance(instance, what),
                    engine.instance(instance, what), calls);
            }
            for (int what = -1; what < 7; what++) {
                same("replayed", model.replayed(instance, what), engine.replayed(instance, what), calls);
            }
            for (int i = -2; i < 12; i++) {
                same("running", model.running(instance, i), engine.running(instance, i), calls);
            }
            same("due", model.due(instance), engine.due(instance), calls);
            for (int i = -1; i < 202; i++) {
                for (int what = -1; what < 4; what++) {
                    same("entry " + instance + " " + i + " " + what, model.entry(instance, i, what),
                        engine.entry(instance, i, what), calls);
                }
                if (engine.entry(instance, i, 1) >= 0) {
                    kinds[engine.entry(instance, i, 1)]++;
                }
            }
            if (engine.instance(instance, 0) >= 0) {
                statuses[engine.instance(instance, 0)]++;
            }
        }
    }

    private static void same(String call, int due, int got, StringBuilder calls) {
        answers++;
        calls.append(' ').append(call).append(" = ").append(got).append(';');
        if (due != got) {
            wrong++;
            System.out.println(call + " answered " + got + ", the model " + due);
        }
    }
}
