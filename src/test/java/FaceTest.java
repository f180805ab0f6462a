import java.lang.reflect.Constructor;
import java.lang.reflect.Field;
import java.lang.reflect.Method;
import java.lang.reflect.Modifier;
import java.util.TreeSet;

/** The public face, and promise 1: a new object. */
public final class FaceTest {
    private static final String[] METHODS = {
        "feed 1", "define 1", "wrong 1", "version 3", "duration 2", "failures 2", "start 1", "signal 2", "abort 1",
        "remove 1", "pass 1", "instance 2", "entry 3", "running 2", "due 1", "ahead 2", "replayed 2", "statistic 2",
        "image 0", "undo 0", "count 1"};

    public static void main(String[] args) {
        Class<?> face = WorkflowEngine.class;
        Check.same("public and final", Modifier.PUBLIC | Modifier.FINAL, face.getModifiers());
        Check.same("package", "", face.getPackageName());
        Check.same("constructors", 1, face.getDeclaredConstructors().length);
        for (Constructor<?> constructor : face.getDeclaredConstructors()) {
            Check.same("constructor", "public WorkflowEngine()", constructor.toString());
        }
        methods(face);
        fields(face);
        for (Class<?> inner : face.getDeclaredClasses()) {
            Check.same(inner + " is static", 1, Modifier.isStatic(inner.getModifiers()) ? 1 : 0);
            Check.same(inner + " is open", 0, inner.getModifiers() & (Modifier.PUBLIC | Modifier.PROTECTED));
        }
        newObject();
        Check.end();
    }

    private static void methods(Class<?> face) {
        TreeSet<String> due = new TreeSet<>();
        TreeSet<String> names = new TreeSet<>();
        for (String method : METHODS) {
            due.add(method);
            names.add(method.substring(0, method.indexOf(' ')));
        }
        TreeSet<String> got = new TreeSet<>();
        for (Method method : face.getDeclaredMethods()) {
            if (Modifier.isPrivate(method.getModifiers())) {
                Check.same("a private " + method.getName(), 0, names.contains(method.getName()) ? 1 : 0);
                continue;
            }
            Check.same(method + " modifiers", Modifier.PUBLIC, method.getModifiers());
            Check.same(method + " type", "int", method.getReturnType().toString());
            for (Class<?> type : method.getParameterTypes()) {
                Check.same(method + " parameter", "int", type.toString());
            }
            got.add(method.getName() + " " + method.getParameterCount());
        }
        Check.same("methods", due.toString(), got.toString());
    }

    private static void fields(Class<?> face) {
        StringBuilder open = new StringBuilder();
        for (Field field : face.getDeclaredFields()) {
            if (!Modifier.isPrivate(field.getModifiers())) {
                open.append(field).append('\n');
            }
        }
        String before = "public static final int WorkflowEngine.";
        String due = before + "NONE\n" + before + "BAD\n" + before + "STATE\n" + before + "FULL\n";
        Check.same("fields", due, open.toString());
        Check.same("NONE", -1, WorkflowEngine.NONE);
        Check.same("BAD", -2, WorkflowEngine.BAD);
        Check.same("STATE", -3, WorkflowEngine.STATE);
        Check.same("FULL", -4, WorkflowEngine.FULL);
    }

    private static void newObject() {
        WorkflowEngine engine = new WorkflowEngine();
        for (int what = 0; what < 6; what++) {
            Check.same("count " + what, 0, engine.count(what));
        }
        for (int i = 0; i < 6; i++) {
            Check.same("instance " + i, -1, engine.instance(i, 0));
        }
        for (int workflow = 0; workflow < 4; workflow++) {
            Check.same("version", -1, engine.version(workflow, -1, 0));
            Check.same("version", -1, engine.version(workflow, 0, 0));
            Check.same("start", -3, engine.start(workflow));
            Check.same("statistic", 0, engine.statistic(workflow, 5));
        }
        for (int code = 0; code < 8; code++) {
            Check.same("duration", 1, engine.count(10 + code));
            Check.same("failures", 0, engine.count(20 + code));
        }
        Check.same("wrong", -5, engine.wrong(0));
        Check.same("undo", -3, engine.undo());
        Check.same("image", 0, engine.image());
        Check.same("undo", 0, engine.undo());
    }
}
