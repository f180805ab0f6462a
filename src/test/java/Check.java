/** What the tests share: engines from texts, and answers beside those that are due. */
final class Check {
    private static int wrong = 0;
    private static int answers = 0;
    private static String sentence = "";

    private Check() {
    }

    static void same(String call, long due, long got) {
        answers++;
        if (due != got) {
            wrong++;
            System.out.println(sentence + call + " answered " + got + ", due is " + due);
        }
    }

    static void same(String call, String due, String got) {
        answers++;
        if (!due.equals(got)) {
            wrong++;
            System.out.println(sentence + call + " answered\n  " + got + ", due is\n  " + due);
        }
    }

    /** Names the words of the document that the next answers are about; they must stand there. */
    static void says(String section, String words) {
        sentence = section + ", '" + words + "': ";
        same("to be found in the document", 1, Document.quotes(section, words) ? 1 : 0);
    }

    /** Ends the test, with exit code 1 if an answer was not as due. */
    static void end() {
        System.out.println(answers + " answers, " + wrong + " not as due");
        System.exit(wrong == 0 && answers > 0 ? 0 : 1);
    }

    /** An engine whose workflow 0 has one version for each text. */
    static WorkflowEngine engine(String... texts) {
        WorkflowEngine engine = new WorkflowEngine();
        for (int i = 0; i < texts.length; i++) {
            same("define " + texts[i], i, define(engine, 0, texts[i]));
        }
        return engine;
    }

    /** An engine with one instance, 0, of a text. */
    static WorkflowEngine started(String text) {
        WorkflowEngine engine = engine(text);
        same("start " + text, 0, engine.start(0));
        return engine;
    }

    static int define(WorkflowEngine engine, int workflow, String text) {
        for (int i = 0; i < text.length(); i++) {
            same("feed " + text, i + 1, engine.feed(text.charAt(i)));
        }
        return engine.define(workflow);
    }

    /** The kept history of an instance: each entry as minute:kind:value. */
    static String history(WorkflowEngine engine, int instance) {
        StringBuilder text = new StringBuilder();
        for (int i = 0; engine.entry(instance, i, 0) != WorkflowEngine.NONE; i++) {
            text.append(i == 0 ? "" : " ").append(engine.entry(instance, i, 0));
            text.append(':').append(engine.entry(instance, i, 1)).append(':').append(engine.entry(instance, i, 2));
        }
        return text.toString();
    }

    /** Where the text has what runs in an instance. */
    static String running(WorkflowEngine engine, int instance) {
        StringBuilder text = new StringBuilder();
        int items = engine.running(instance, -1);
        for (int i = 0; i < items; i++) {
            text.append(i == 0 ? "" : " ").append(engine.running(instance, i));
        }
        same("running behind the last", WorkflowEngine.NONE, engine.running(instance, items));
        return text.toString();
    }

    /** Every answer of every question, so that two states can be held beside one another. */
    static String state(WorkflowEngine engine) {
        StringBuilder text = new StringBuilder();
        for (int what = -1; what < 30; what++) {
            text.append(engine.count(what)).append(' ');
        }
        text.append(engine.wrong(0)).append(' ').append(engine.wrong(1)).append('\n');
        for (int workflow = 0; workflow < 4; workflow++) {
            for (int version = -1; version < 5; version++) {
                for (int what = 0; what < 5; what++) {
                    text.append(engine.version(workflow, version, what)).append(' ');
                }
            }
            for (int what = 0; what < 8; what++) {
                text.append(engine.statistic(workflow, what)).append(' ');
            }
        }
        for (int instance = 0; instance < 6; instance++) {
            text.append('\n').append(engine.due(instance)).append(' ').append(engine.ahead(instance, 7));
            for (int what = 0; what < 28; what++) {
                text.append(' ').append(engine.instance(instance, what));
            }
            for (int what = 0; what < 6; what++) {
                text.append(' ').append(engine.replayed(instance, what));
            }
            text.append(" | ").append(history(engine, instance)).append(" | ").append(running(engine, instance));
        }
        return text.toString();
    }
}
