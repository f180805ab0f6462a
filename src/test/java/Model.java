import java.io.ByteArrayInputStream;
import java.io.ByteArrayOutputStream;
import java.io.IOException;
import java.io.ObjectInputStream;
import java.io.ObjectOutputStream;
import java.io.Serializable;
import java.util.ArrayList;
import java.util.Collections;
import java.util.List;
import java.util.regex.Matcher;
import java.util.regex.Pattern;

/**
 * The document once more, written apart from WorkflowEngine and in another way: objects that run
 * in place of rows of numbers, an automaton in place of a reader, and a snapshot in bytes.
 */
final class Model {
    private static final int OPEN_END = Integer.MAX_VALUE;
    private static final Pattern TASK = Pattern.compile("t([a-h])(?:r([0-9])(?:\\+([0-9]+))?)?(?:c([a-h]))?");
    private static final Pattern SIGNAL = Pattern.compile("s([a-h])(?:,([0-9]+))?");
    private static final Pattern SET = Pattern.compile("x([0-3])([=+])(-?[0-9]+)");
    private static final Pattern CHOICE = Pattern.compile("\\[x([0-3])<(-?[0-9]+):.*", Pattern.DOTALL);

    private Everything now = new Everything();
    private byte[] image;
    private final StringBuilder tape = new StringBuilder();

    // ---- what a snapshot holds

    private static final class Everything implements Serializable {
        private static final long serialVersionUID = 1;
        int minute;
        int[] durations = {1, 1, 1, 1, 1, 1, 1, 1};
        int[] failing = new int[8];
        int wrongAt = -5;
        int wrongReason = -5;
        Flow[][] flows = new Flow[4][4];
        Inst[] instances = new Inst[6];

        Flow latest(int workflow) {
            Flow latest = null;
            for (Flow flow : flows[workflow]) {
                latest = flow == null ? latest : flow;
            }
            return latest;
        }

        boolean fails(int code) {
            if (failing[code] == 0) {
                return false;
            }
            failing[code]--;
            return true;
        }
    }

    private static final class Flow implements Serializable {
        private static final long serialVersionUID = 1;
        int workflow;
        int number;
        String text;
        List<Item> body;
    }

    private static final class Item implements Serializable {
        private static final long serialVersionUID = 1;
        char sort;
        int place;
        int code;
        int number;
        boolean adds;
        int again;
        int undo = -1;
        int quorum;
        List<List<Item>> bodies = new ArrayList<>();
    }

    // ---- texts

    /** The error position and the reason, or null if the text is right. */
    static int[] fault(String text) {
        StringBuilder open = new StringBuilder();
        List<Integer> bodies = new ArrayList<>();
        String state = "item";
        int items = 0;
        int digits = 0;
        int last = 0;
        boolean fifth = false;
        for (int i = 0; i < text.length(); i++) {
            char c = text.charAt(i);
            boolean digit = c >= '0' && c <= '9';
            boolean letter = c >= 'a' && c <= 'h';
            boolean more = state.startsWith("number") && digits < 3 && digits > 0
                && !(digits == 1 && text.charAt(i - 1) == '0') && digit;
            if (more) {
                digits++;
                continue;
            }
            if (state.startsWith("number") && digits == 0) {
                if (!digit) {
                    return new int[] {i, 1};
                }
                digits = 1;
                continue;
            }
            if (state.startsWith("number")) {
                state = state.substring(6);
            }
            String next = null;
            switch (state) {
                case "item":
                    if ("twsx[(".indexOf(c) < 0) {
                        return new int[] {i, 1};
                    }
                    if (items == 24 || fifth || "[(".indexOf(c) >= 0 && open.length() == 4) {
                        return new int[] {i, 2};
                    }
                    items++;
                    if (c == '(') {
                        open.append(c);
                        bodies.add(1);
                        next = "item";
                    } else {
                        next = c == 't' ? "taskcode" : c == 'w' ? "numberend" : c == 's' ? "signalcode"
                            : c == 'x' ? "setvariable" : "choicex";
                    }
                    break;
                case "taskcode": next = letter ? "aftertask" : null; break;
                case "aftertask": next = c == 'r' ? "again" : c == 'c' ? "undo" : "?"; break;
                case "again": next = digit ? "afteragain" : null; break;
                case "afteragain": next = c == '+' ? "numberafterdelay" : c == 'c' ? "undo" : "?"; break;
                case "afterdelay": next = c == 'c' ? "undo" : "?"; break;
                case "undo": next = letter ? "end" : null; break;
                case "signalcode": next = letter ? "aftersignal" : null; break;
                case "aftersignal": next = c == ',' ? "numberend" : "?"; break;
                case "setvariable": next = c >= '0' && c <= '3' ? "setsign" : null; break;
                case "setsign": next = c == '=' || c == '+' ? "minusend" : null; break;
                case "choicex": next = c == 'x' ? "choicevariable" : null; break;
                case "choicevariable": next = c >= '0' && c <= '3' ? "choiceless" : null; break;
                case "choiceless": next = c == '<' ? "minuscolon" : null; break;
                case "colon":
                    if (c == ':') {
                        open.append('[');
                        bodies.add(0);
                        next = "item";
                    }
                    break;
                case "minusend": case "minuscolon":
                    next = "number" + state.substring(5);
                    if (c != '-') {
                        if (!digit) {
                            return new int[] {i, 1};
                        }
                        digits = 1;
                        state = next;
                        continue;
                    }
                    break;
                case "afterparallel": next = c == 'q' ? "quorum" : "?"; break;
                case "quorum": next = c >= '1' && c <= '0' + last ? "end" : null; break;
                case "end": next = "?"; break;
                default: throw new IllegalStateException(state);
            }
            fifth = false;
            if ("?".equals(next)) {
                int top = open.length() - 1;
                char within = top < 0 ? ' ' : open.charAt(top);
                next = null;
                if (c == ';') {
                    next = "item";
                } else if (c == '|' && within == '(') {
                    bodies.set(top, bodies.get(top) + 1);
                    next = "item";
                } else if (c == '|' && within == '[') {
                    open.setCharAt(top, ']');
                    next = "item";
                } else if (c == ')' && within == '(') {
                    last = bodies.remove(top);
                    open.setLength(top);
                    next = "afterparallel";
                } else if (c == ']' && within == ']') {
                    bodies.remove(top);
                    open.setLength(top);
                    next = "end";
                }
                fifth = c == '|' && within == '(' && next != null && bodies.get(top) == 5;
            }
            if (next == null) {
                return new int[] {i, 1};
            }
            state = next;
            digits = 0;
        }
        if (state.startsWith("number") && digits > 0) {
            state = state.substring(6);
        }
        boolean ends = state.equals("end") || state.startsWith("after");
        return ends && open.length() == 0 ? null : new int[] {text.length(), 1};
    }

    private static List<String> pieces(String text, char between) {
        List<String> pieces = new ArrayList<>();
        int depth = 0;
        int from = 0;
        for (int i = 0; i <= text.length(); i++) {
            char c = i == text.length() ? between : text.charAt(i);
            if (depth == 0 && c == between) {
                pieces.add(text.substring(from, i));
                from = i + 1;
            }
            depth += "([".indexOf(c) >= 0 ? 1 : ")]".indexOf(c) >= 0 ? -1 : 0;
        }
        return pieces;
    }

    private static List<Item> body(String text, int place) {
        List<Item> items = new ArrayList<>();
        for (String piece : pieces(text, ';')) {
            items.add(item(piece, place));
            place += piece.length() + 1;
        }
        return items;
    }

    private static Item item(String text, int place) {
        Item item = new Item();
        item.sort = text.charAt(0);
        item.place = place;
        Matcher m;
        if ((m = TASK.matcher(text)).matches()) {
            item.code = m.group(1).charAt(0) - 'a';
            item.again = m.group(2) == null ? 0 : Integer.parseInt(m.group(2));
            item.number = m.group(3) == null ? 0 : Integer.parseInt(m.group(3));
            item.undo = m.group(4) == null ? -1 : m.group(4).charAt(0) - 'a';
        } else if (item.sort == 'w') {
            item.number = Integer.parseInt(text.substring(1));
        } else if ((m = SIGNAL.matcher(text)).matches()) {
            item.code = m.group(1).charAt(0) - 'a';
            item.number = m.group(2) == null ? -1 : Integer.parseInt(m.group(2));
        } else if ((m = SET.matcher(text)).matches()) {
            item.code = m.group(1).charAt(0) - '0';
            item.adds = m.group(2).equals("+");
            item.number = Integer.parseInt(m.group(3));
        } else if ((m = CHOICE.matcher(text)).matches()) {
            item.code = m.group(1).charAt(0) - '0';
            item.number = Integer.parseInt(m.group(2));
            int from = text.indexOf(':') + 1;
            bodies(item, text.substring(from, text.length() - 1), place + from);
        } else {
            int close = text.lastIndexOf(')');
            bodies(item, text.substring(1, close), place + 1);
            item.quorum = close == text.length() - 1 ? item.bodies.size() : text.charAt(close + 2) - '0';
        }
        return item;
    }

    private static void bodies(Item item, String text, int place) {
        for (String piece : pieces(text, '|')) {
            item.bodies.add(body(piece, place));
            place += piece.length() + 1;
        }
    }

    private static int items(List<Item> body, String sorts) {
        int items = 0;
        for (Item item : body) {
            items += sorts.indexOf(item.sort) >= 0 ? 1 : 0;
            for (List<Item> inner : item.bodies) {
                items += items(inner, sorts);
            }
        }
        return items;
    }

    private static int depth(List<Item> body) {
        int depth = 0;
        for (Item item : body) {
            for (List<Item> inner : item.bodies) {
                depth = Math.max(depth, 1 + depth(inner));
            }
        }
        return depth;
    }

    private static int width(List<Item> body) {
        int width = 0;
        for (Item item : body) {
            int all = 0;
            int greatest = 0;
            for (List<Item> inner : item.bodies) {
                all += width(inner);
                greatest = Math.max(greatest, width(inner));
            }
            width = Math.max(width, item.sort == '(' ? all : item.sort == '[' ? greatest : 1);
        }
        return width;
    }

    // ---- what runs

    private enum Fate { RUNS, DONE, FAILED, CANCELLED }

    private static final class DoneTask implements Serializable {
        private static final long serialVersionUID = 1;
        Item item;
        BodyRun within;
        boolean settled;
    }

    private static final class Inst implements Serializable {
        private static final long serialVersionUID = 1;
        Everything all;
        Flow flow;
        int status;
        int began;
        int ended = -5;
        int[] variables = new int[4];
        int[] pending = new int[8];
        List<int[]> history = new ArrayList<>();
        List<DoneTask> tasks = new ArrayList<>();
        BodyRun body;
        Reversal reversal;

        void write(int kind, int value) {
            history.add(new int[] {all.minute, kind, value});
        }

        int written(int kind) {
            int entries = 0;
            for (int[] entry : history) {
                entries += entry[1] == kind ? 1 : 0;
            }
            return entries;
        }

        void begin() {
            began = all.minute;
            body = new BodyRun(this, null, flow.body);
            body.begin();
            settle();
        }

        void look() {
            if (status == 0) {
                body.look();
            }
            settle();
        }

        void settle() {
            if (status == 0 && body.fate == Fate.DONE) {
                status = 1;
                ended = all.minute;
                write(11, 1);
            } else if (status == 0 && body.fate != Fate.RUNS) {
                status = 2;
                write(11, 2);
                reversal = new Reversal(this, Collections.singletonList(body));
            }
            if (status == 2 && reversal.go()) {
                status = written(7) > 0 ? 4 : 3;
                ended = all.minute;
                write(11, status);
            }
        }
    }

    /** The tasks to be compensated, the last one that was done first. */
    private static final class Reversal implements Serializable {
        private static final long serialVersionUID = 1;
        final Inst inst;
        final List<DoneTask> left = new ArrayList<>();
        int failed = -1;
        int end;

        Reversal(Inst inst, List<BodyRun> bodies) {
            this.inst = inst;
            for (DoneTask task : inst.tasks) {
                boolean meant = false;
                for (BodyRun body = task.within; body != null; body = body.outer) {
                    meant |= bodies.contains(body);
                }
                if (meant && !task.settled && task.item.undo >= 0) {
                    left.add(0, task);
                }
            }
        }

        boolean go() {
            while (!left.isEmpty()) {
                DoneTask task = left.get(0);
                if (failed < 0) {
                    failed = 0;
                    attempt(task);
                }
                if (end > inst.all.minute) {
                    return false;
                }
                if (!inst.all.fails(task.item.undo)) {
                    settle(task, 6);
                } else if (++failed == 3) {
                    settle(task, 7);
                } else {
                    attempt(task);
                }
            }
            return true;
        }

        private void attempt(DoneTask task) {
            inst.write(5, task.item.undo);
            end = inst.all.minute + inst.all.durations[task.item.undo];
        }

        private void settle(DoneTask task, int kind) {
            inst.write(kind, task.item.code);
            task.settled = true;
            left.remove(0);
            failed = -1;
        }
    }

    private static final class BodyRun implements Serializable {
        private static final long serialVersionUID = 1;
        final Inst inst;
        final BodyRun outer;
        final List<Item> items;
        int at = -1;
        Run current;
        Fate fate = Fate.RUNS;

        BodyRun(Inst inst, BodyRun outer, List<Item> items) {
            this.inst = inst;
            this.outer = outer;
            this.items = items;
        }

        void begin() {
            next();
            look();
        }

        private void next() {
            at++;
            Item item = items.get(at);
            current = item.sort == 't' ? new TaskRun() : item.sort == 'w' || item.sort == 's' ? new TimedRun()
                : item.sort == 'x' ? new SetRun() : item.sort == '[' ? new ChoiceRun() : new ParallelRun();
            current.inst = inst;
            current.within = this;
            current.item = item;
            current.begin();
        }

        void look() {
            while (fate == Fate.RUNS) {
                current.look();
                if (current.fate == Fate.RUNS) {
                    return;
                }
                if (current.fate == Fate.FAILED) {
                    fate = Fate.FAILED;
                } else if (at == items.size() - 1) {
                    fate = Fate.DONE;
                } else {
                    next();
                }
            }
        }
    }

    private abstract static class Run implements Serializable {
        private static final long serialVersionUID = 1;
        Inst inst;
        BodyRun within;
        Item item;
        Fate fate = Fate.RUNS;

        abstract void begin();

        abstract void look();

        /** The places of what runs. */
        void running(List<Integer> places) {
            places.add(item.place);
        }

        abstract int due();

        int now() {
            return inst.all.minute;
        }
    }

    private static final class TaskRun extends Run {
        private static final long serialVersionUID = 1;
        int attempts;
        boolean waits;
        int when;

        void begin() {
            attempt();
        }

        private void attempt() {
            waits = false;
            attempts++;
            when = now() + inst.all.durations[item.code];
            inst.write(0, item.code);
        }

        void look() {
            while (fate == Fate.RUNS && when <= now()) {
                if (waits) {
                    attempt();
                } else if (!inst.all.fails(item.code)) {
                    inst.write(2, item.code);
                    fate = Fate.DONE;
                    DoneTask task = new DoneTask();
                    task.item = item;
                    task.within = within;
                    inst.tasks.add(task);
                } else {
                    inst.write(1, item.code);
                    int delay = item.number;
                    for (int i = 1; i < attempts; i++) {
                        delay *= 2;
                    }
                    if (attempts > item.again) {
                        fate = Fate.FAILED;
                    } else if (delay == 0) {
                        attempt();
                    } else {
                        waits = true;
                        when += delay;
                    }
                }
            }
        }

        int due() {
            return when;
        }
    }

    /** A wait or a signal. */
    private static final class TimedRun extends Run {
        private static final long serialVersionUID = 1;
        int end;

        void begin() {
            end = item.number < 0 ? OPEN_END : now() + item.number;
        }

        void look() {
            if (item.sort == 's' && inst.pending[item.code] > 0) {
                inst.pending[item.code]--;
                inst.write(3, item.code);
                fate = Fate.DONE;
            } else if (end <= now() && item.sort == 's') {
                inst.write(4, item.code);
                fate = Fate.FAILED;
            } else if (end <= now()) {
                fate = Fate.DONE;
            }
        }

        int due() {
            return end;
        }
    }

    private static final class SetRun extends Run {
        private static final long serialVersionUID = 1;

        void begin() {
        }

        void look() {
            inst.variables[item.code] = (item.adds ? inst.variables[item.code] : 0) + item.number;
            inst.write(8, item.code);
            fate = Fate.DONE;
        }

        int due() {
            return OPEN_END;
        }
    }

    private static final class ChoiceRun extends Run {
        private static final long serialVersionUID = 1;
        BodyRun chosen;

        void begin() {
            chosen = new BodyRun(inst, within, item.bodies.get(inst.variables[item.code] < item.number ? 0 : 1));
            chosen.begin();
        }

        void look() {
            chosen.look();
            fate = chosen.fate;
        }

        void running(List<Integer> places) {
            if (chosen.fate == Fate.RUNS) {
                chosen.current.running(places);
            }
        }

        int due() {
            return chosen.current.due();
        }
    }

    private static final class ParallelRun extends Run {
        private static final long serialVersionUID = 1;
        final List<BodyRun> bodies = new ArrayList<>();
        Reversal reversal;

        void begin() {
            for (List<Item> items : item.bodies) {
                BodyRun body = new BodyRun(inst, within, items);
                bodies.add(body);
                body.begin();
            }
        }

        private List<BodyRun> with(Fate wanted) {
            List<BodyRun> found = new ArrayList<>(bodies);
            found.removeIf(body -> body.fate != wanted);
            return found;
        }

        void look() {
            if (reversal == null) {
                for (BodyRun body : with(Fate.RUNS)) {
                    body.look();
                }
                int done = with(Fate.DONE).size();
                boolean enough = done >= item.quorum;
                boolean hopeless = done + with(Fate.RUNS).size() < item.quorum;
                if (!enough && !hopeless) {
                    return;
                }
                for (BodyRun body : with(Fate.RUNS)) {
                    inst.write(10, bodies.indexOf(body));
                    body.fate = Fate.CANCELLED;
                }
                if (hopeless) {
                    fate = Fate.FAILED;
                    return;
                }
                List<BodyRun> others = with(Fate.FAILED);
                others.addAll(with(Fate.CANCELLED));
                reversal = new Reversal(inst, others);
            }
            if (reversal.go()) {
                inst.write(9, with(Fate.DONE).size());
                fate = Fate.DONE;
            }
        }

        void running(List<Integer> places) {
            for (BodyRun body : with(Fate.RUNS)) {
                body.current.running(places);
            }
        }

        int due() {
            if (reversal != null) {
                return reversal.end;
            }
            int least = OPEN_END;
            for (BodyRun body : with(Fate.RUNS)) {
                least = Math.min(least, body.current.due());
            }
            return least;
        }
    }

    // ---- the face

    private Inst at(int instance) {
        return instance < 0 || instance > 5 ? null : now.instances[instance];
    }

    private int all() {
        int instances = 0;
        for (Inst inst : now.instances) {
            instances += inst == null ? 0 : 1;
        }
        return instances;
    }

    int feed(int sign) {
        if (sign < 0 || sign > 127) {
            return -2;
        }
        return tape.length() == 80 ? -4 : tape.append((char) sign).length();
    }

    int define(int workflow) {
        if (workflow < 0 || workflow > 3) {
            return -1;
        }
        if (now.flows[workflow][3] != null) {
            return -4;
        }
        String text = tape.toString();
        tape.setLength(0);
        int[] fault = fault(text);
        now.wrongAt = fault == null ? -5 : fault[0];
        now.wrongReason = fault == null ? -5 : fault[1];
        if (fault != null) {
            return -100 - fault[0];
        }
        Flow flow = new Flow();
        flow.workflow = workflow;
        flow.number = now.latest(workflow) == null ? 0 : now.latest(workflow).number + 1;
        flow.text = text;
        flow.body = body(text, 0);
        now.flows[workflow][flow.number] = flow;
        return flow.number;
    }

    int wrong(int what) {
        return what == 0 ? now.wrongAt : what == 1 ? now.wrongReason : -1;
    }

    int version(int workflow, int version, int what) {
        if (workflow < 0 || workflow > 3 || version < -1 || version > 3) {
            return -1;
        }
        Flow flow = version == -1 ? now.latest(workflow) : now.flows[workflow][version];
        if (flow == null || what < 0 || what > 4) {
            return -1;
        }
        return what == 0 ? items(flow.body, "twsx[(") : what == 1 ? items(flow.body, "t")
            : what == 2 ? depth(flow.body) : what == 3 ? flow.text.length() : width(flow.body);
    }

    int duration(int code, int minutes) {
        return put(now.durations, code, minutes);
    }

    int failures(int code, int n) {
        return put(now.failing, code, n);
    }

    private static int put(int[] row, int code, int value) {
        if (code < 0 || code > 7) {
            return -1;
        }
        if (value < 0 || value > 99) {
            return -2;
        }
        int before = row[code];
        row[code] = value;
        return before;
    }

    int start(int workflow) {
        if (workflow < 0 || workflow > 3) {
            return -1;
        }
        if (now.latest(workflow) == null) {
            return -3;
        }
        for (int i = 0; i < 6; i++) {
            if (now.instances[i] == null) {
                Inst inst = new Inst();
                inst.all = now;
                inst.flow = now.latest(workflow);
                now.instances[i] = inst;
                inst.begin();
                return i;
            }
        }
        return -4;
    }

    int signal(int instance, int code) {
        Inst inst = at(instance);
        if (inst == null || code < 0 || code > 7) {
            return -1;
        }
        if (inst.status != 0) {
            return -3;
        }
        return inst.pending[code] == 9 ? -4 : ++inst.pending[code];
    }

    int abort(int instance) {
        Inst inst = at(instance);
        if (inst == null) {
            return -1;
        }
        if (inst.status != 0) {
            return -3;
        }
        inst.body.fate = Fate.CANCELLED;
        inst.settle();
        return inst.status;
    }

    int remove(int instance) {
        Inst inst = at(instance);
        if (inst == null) {
            return -1;
        }
        if (inst.ended == -5) {
            return -3;
        }
        now.instances[instance] = null;
        return inst.status;
    }

    int pass(int n) {
        if (n < 1 || n > 200) {
            return -2;
        }
        if (now.minute + n > 99999) {
            return -4;
        }
        for (int i = 0; i < n; i++) {
            tick();
        }
        return now.minute;
    }

    private void tick() {
        now.minute++;
        for (Inst inst : now.instances) {
            if (inst != null) {
                inst.look();
            }
        }
    }

    int instance(int instance, int what) {
        Inst inst = at(instance);
        if (inst == null || what < 0 || what == 9 || what > 13 && what < 20 || what > 27) {
            return -1;
        }
        int[] first = {inst.status, inst.flow.workflow, inst.flow.number, inst.began, inst.ended,
            inst.tasks.size(), inst.written(6), inst.written(7), inst.history.size()};
        return what < 9 ? first[what] : what < 14 ? inst.variables[what - 10] : inst.pending[what - 20];
    }

    int entry(int instance, int i, int what) {
        Inst inst = at(instance);
        if (inst == null || i < 0 || i >= Math.min(200, inst.history.size()) || what < 0 || what > 2) {
            return -1;
        }
        return inst.history.get(i)[what];
    }

    int running(int instance, int i) {
        Inst inst = at(instance);
        if (inst == null) {
            return -1;
        }
        List<Integer> places = new ArrayList<>();
        if (inst.status == 0) {
            inst.body.current.running(places);
        }
        return i == -1 ? places.size() : i < 0 || i >= places.size() ? -1 : places.get(i);
    }

    int due(int instance) {
        Inst inst = at(instance);
        if (inst == null) {
            return -1;
        }
        int due = inst.status == 0 ? inst.body.current.due() : inst.status == 2 ? inst.reversal.end : OPEN_END;
        return due == OPEN_END ? -5 : due;
    }

    int ahead(int instance, int n) {
        if (at(instance) == null) {
            return -1;
        }
        if (n < 1 || n > 200) {
            return -2;
        }
        Everything kept = now;
        now = thawed(frozen(now));
        for (int i = 0; i < n; i++) {
            tick();
        }
        int status = now.instances[instance].status;
        now = kept;
        return status;
    }

    int replayed(int instance, int what) {
        Inst inst = at(instance);
        if (inst == null || what < 0 || what > 5) {
            return -1;
        }
        int[] found = new int[6];
        for (int[] entry : inst.history.subList(0, Math.min(200, inst.history.size()))) {
            switch (entry[1]) {
                case 11: found[0] = entry[2]; break;
                case 2: found[1]++; break;
                case 6: found[2]++; break;
                case 7: found[3]++; break;
                case 0: case 5: found[4]++; break;
                case 1: found[5]++; break;
                default: break;
            }
        }
        return found[what];
    }

    int statistic(int workflow, int what) {
        if (workflow < 0 || workflow > 3 || what < 0 || what > 7) {
            return -1;
        }
        int[] with = new int[6];
        int ended = 0;
        int minutes = 0;
        for (Inst inst : now.instances) {
            if (inst != null && inst.flow.workflow == workflow) {
                with[inst.status]++;
                with[5]++;
                ended += inst.ended == -5 ? 0 : 1;
                minutes += inst.ended == -5 ? 0 : inst.ended - inst.began;
            }
        }
        if (what < 6) {
            return with[what];
        }
        return ended == 0 ? -5 : Float.floatToIntBits((float) (what == 6 ? minutes : with[1]) / ended);
    }

    int image() {
        image = frozen(now);
        return all();
    }

    int undo() {
        if (image == null) {
            return -3;
        }
        now = thawed(image);
        return all();
    }

    int count(int what) {
        if (what >= 10 && what < 18) {
            return now.durations[what - 10];
        }
        if (what >= 20 && what < 28) {
            return now.failing[what - 20];
        }
        int versions = 0;
        int running = 0;
        int reversing = 0;
        for (Flow[] row : now.flows) {
            for (Flow flow : row) {
                versions += flow == null ? 0 : 1;
            }
        }
        for (Inst inst : now.instances) {
            running += inst != null && inst.status == 0 ? 1 : 0;
            reversing += inst != null && inst.status == 2 ? 1 : 0;
        }
        int[] counts = {now.minute, all(), running, reversing, tape.length(), versions};
        return what < 0 || what > 5 ? -1 : counts[what];
    }

    private static byte[] frozen(Everything state) {
        try {
            ByteArrayOutputStream bytes = new ByteArrayOutputStream();
            try (ObjectOutputStream out = new ObjectOutputStream(bytes)) {
                out.writeObject(state);
            }
            return bytes.toByteArray();
        } catch (IOException e) {
            throw new IllegalStateException(e);
        }
    }

    private static Everything thawed(byte[] bytes) {
        try (ObjectInputStream in = new ObjectInputStream(new ByteArrayInputStream(bytes))) {
            return (Everything) in.readObject();
        } catch (IOException | ClassNotFoundException e) {
            throw new IllegalStateException(e);
        }
    }
}
