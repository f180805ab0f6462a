import java.util.Arrays;

/**
 * A workflow engine: workflows are read from texts in versions; instances run on the version with
 * which they were started, with tasks that are tried again, timers, signals, choices, and parallel
 * branches that are joined by a quorum; what was done is compensated in reverse when branches or
 * instances fail. The class is not thread-safe.
 */
public final class WorkflowEngine {
    public static final int NONE = -1, BAD = -2, STATE = -3, FULL = -4;

    private static final int NOTHING = -5;
    private static final int WRONG_TEXT = -100;

    private static final int WORKFLOWS = 4, VERSIONS = 4, INSTANCES = 6, CODES = 8, VARIABLES = 4;
    private static final int TAPE = 80, ITEMS = 24, OPEN = 4, BODIES = 4, ENTRIES = 200;
    private static final int LAST_SIGN = 127, LAST_MINUTE = 99999, MOST_MINUTES = 200;
    private static final int MOST_ENVIRONMENT = 99, MOST_PENDING = 9;

    // Above every minute that an attempt, a wait or a signal can reach.
    private static final int NEVER = 1000000000;

    // Why a text is wrong.
    private static final int RIGHT = 0, FORM = 1, LIMIT = 2;

    // The kinds of items.
    private static final int TASK = 0, WAIT = 1, SIGNAL = 2, SET = 3, CHOICE = 4, PARALLEL = 5;

    // What an instance is.
    private static final int FREE = -1, RUNNING = 0, COMPLETED = 1, COMPENSATING = 2, REVERSED = 3, BROKEN = 4;

    // The kinds of entries in a history.
    private static final int ATTEMPT_BEGINS = 0, ATTEMPT_FAILS = 1, TASK_DONE = 2, SIGNAL_TAKEN = 3;
    private static final int SIGNAL_FAILS = 4, REVERSAL_BEGINS = 5, TASK_REVERSED = 6, TASK_STUCK = 7;
    private static final int VARIABLE_CHANGED = 8, PARALLEL_DONE = 9, BODY_CANCELLED = 10, STATUS_CHANGED = 11;

    private final int[] tape = new int[TAPE];
    private final Reader reader = new Reader();
    // One row of versions serves the present, the snapshot and the forecast: a version that the
    // snapshot counts is never read anew, since undo() never leaves fewer than it counts.
    private final Version[] versions = new Version[WORKFLOWS * VERSIONS];
    private final World present;
    private final World saved;
    private final World forecast;
    private int fed;
    private boolean hasSaved;

    /** Creates an engine without versions and instances. */
    public WorkflowEngine() {
        for (int i = 0; i < WORKFLOWS * VERSIONS; i++) {
            versions[i] = new Version(i / VERSIONS, i % VERSIONS);
        }
        // Stands in instances that have never begun, so that none has to do without a version.
        Version none = new Version(0, 0);
        present = new World(new Environment(), none, ENTRIES);
        saved = new World(new Environment(), none, ENTRIES);
        // A forecast answers a status alone, so its histories keep nothing.
        forecast = new World(new Environment(), none, 0);
    }

    /** Appends a byte to the tape and returns the new length. */
    public int feed(int sign) {
        if (sign < 0 || sign > LAST_SIGN) {
            return BAD;
        }
        if (fed >= TAPE) {
            return FULL;
        }
        tape[fed] = sign;
        fed++;
        return fed;
    }

    /** Reads a new version of a workflow from the tape and returns its number. */
    public int define(int workflow) {
        if (!isInside(workflow, WORKFLOWS)) {
            return NONE;
        }
        int number = present.defined[workflow];
        if (!isInside(number, VERSIONS)) {
            return FULL;
        }
        present.reason = reader.read(tape, fed, versions[workflow * VERSIONS + number]);
        present.wrongAt = reader.at;
        fed = 0;
        if (present.reason != RIGHT) {
            return WRONG_TEXT - present.wrongAt;
        }
        present.defined[workflow] = number + 1;
        return number;
    }

    /** Returns why the text that was read last was wrong: 0 the error position, 1 the reason. */
    public int wrong(int what) {
        if (what != 0 && what != 1) {
            return NONE;
        }
        if (present.reason == RIGHT) {
            return NOTHING;
        }
        return what == 0 ? present.wrongAt : present.reason;
    }

    /** Returns a property of a version; the version -1 is the latest one. */
    public int version(int workflow, int version, int what) {
        if (!isInside(workflow, WORKFLOWS)) {
            return NONE;
        }
        int number = version == -1 ? present.defined[workflow] - 1 : version;
        if (!isInside(number, present.defined[workflow]) || !isInside(number, VERSIONS)) {
            return NONE;
        }
        Version found = versions[workflow * VERSIONS + number];
        switch (what) {
            case 0: return found.items;
            case 1: return found.tasks;
            case 2: return found.depth;
            case 3: return found.length;
            case 4: return found.width;
            default: return NONE;
        }
    }

    /** Sets the duration of a code and returns the previous one. */
    public int duration(int code, int minutes) {
        return replaced(present.environment.durations, code, minutes);
    }

    /** Sets the number of failures to come of a code and returns the previous one. */
    public int failures(int code, int n) {
        return replaced(present.environment.failing, code, n);
    }

    /** Starts an instance of the latest version of a workflow and returns its number. */
    public int start(int workflow) {
        if (!isInside(workflow, WORKFLOWS)) {
            return NONE;
        }
        int number = present.defined[workflow] - 1;
        if (!isInside(number, VERSIONS)) {
            return STATE;
        }
        int free = present.lowestFree();
        if (!isInside(free, INSTANCES)) {
            return FULL;
        }
        present.instances[free].begin(versions[workflow * VERSIONS + number]);
        return free;
    }

    /** Gives an instance a pending signal and returns how many with this code it has. */
    public int signal(int instance, int code) {
        Instance found = find(instance);
        if (found == null || !isInside(code, CODES)) {
            return NONE;
        }
        if (found.status != RUNNING) {
            return STATE;
        }
        if (found.pending[code] >= MOST_PENDING) {
            return FULL;
        }
        found.pending[code]++;
        return found.pending[code];
    }

    /** Aborts an instance and returns its status then. */
    public int abort(int instance) {
        Instance found = find(instance);
        if (found == null) {
            return NONE;
        }
        if (found.status != RUNNING) {
            return STATE;
        }
        found.giveUp();
        return found.status;
    }

    /** Removes an instance that has ended and returns its status. */
    public int remove(int instance) {
        Instance found = find(instance);
        if (found == null) {
            return NONE;
        }
        if (!found.hasEnded()) {
            return STATE;
        }
        int status = found.status;
        found.status = FREE;
        return status;
    }

    /** Lets time pass and returns the present minute. */
    public int pass(int n) {
        if (n < 1 || n > MOST_MINUTES) {
            return BAD;
        }
        if (present.environment.minute + n > LAST_MINUTE) {
            return FULL;
        }
        present.letPass(n);
        return present.environment.minute;
    }

    /** Returns a property of an instance. */
    public int instance(int instance, int what) {
        Instance found = find(instance);
        if (found == null) {
            return NONE;
        }
        if (isInside(what - 10, VARIABLES)) {
            return found.variables[what - 10];
        }
        if (isInside(what - 20, CODES)) {
            return found.pending[what - 20];
        }
        switch (what) {
            case 0: return found.status;
            case 1: return found.plan.workflow;
            case 2: return found.plan.number;
            case 3: return found.started;
            case 4: return found.ended;
            case 5: return found.done;
            case 6: return found.reversed;
            case 7: return found.stuck;
            case 8: return found.history.entries;
            default: return NONE;
        }
    }

    /** Returns a number of an entry of a history: 0 the minute, 1 the kind, 2 the value. */
    public int entry(int instance, int i, int what) {
        Instance found = find(instance);
        if (found == null || !isInside(i, found.history.kept())) {
            return NONE;
        }
        switch (what) {
            case 0: return found.history.minuteOf(i);
            case 1: return found.history.kindOf(i);
            case 2: return found.history.valueOf(i);
            default: return NONE;
        }
    }

    /** Returns where the text has an item that is running in an instance, or how many are. */
    public int running(int instance, int i) {
        Instance found = find(instance);
        if (found == null) {
            return NONE;
        }
        return i == -1 ? found.runningItems() : found.placeOfRunning(i);
    }

    /** Returns the next minute at which something happens in an instance by itself. */
    public int due(int instance) {
        Instance found = find(instance);
        if (found == null) {
            return NONE;
        }
        return found.nextMinute();
    }

    /** Returns the status that an instance would have after some minutes without calls. */
    public int ahead(int instance, int n) {
        if (find(instance) == null || !isInside(instance, INSTANCES)) {
            return NONE;
        }
        if (n < 1 || n > MOST_MINUTES) {
            return BAD;
        }
        forecast.copy(present);
        forecast.letPass(n);
        return forecast.instances[instance].status;
    }

    /** Replays the kept history of an instance and returns a number that it finds. */
    public int replayed(int instance, int what) {
        Instance found = find(instance);
        if (found == null) {
            return NONE;
        }
        switch (what) {
            case 0: return found.history.lastStatus();
            case 1: return found.history.entriesOf(TASK_DONE);
            case 2: return found.history.entriesOf(TASK_REVERSED);
            case 3: return found.history.entriesOf(TASK_STUCK);
            case 4: return found.history.attempts();
            case 5: return found.history.entriesOf(ATTEMPT_FAILS);
            default: return NONE;
        }
    }

    /** Returns a statistic of a workflow. */
    public int statistic(int workflow, int what) {
        if (!isInside(workflow, WORKFLOWS) || what < 0 || what > 7) {
            return NONE;
        }
        if (what <= BROKEN) {
            return present.instancesOf(workflow, what);
        }
        if (what == 5) {
            return present.startedOf(workflow);
        }
        int ended = present.endedOf(workflow);
        if (ended == 0) {
            return NOTHING;
        }
        int whole = what == 6 ? present.minutesOf(workflow) : present.instancesOf(workflow, COMPLETED);
        return floatBits(whole, ended);
    }

    /** Takes a snapshot and returns the number of instances. */
    public int image() {
        saved.copy(present);
        hasSaved = true;
        return present.started();
    }

    /** Restores the snapshot and returns the number of instances. */
    public int undo() {
        if (!hasSaved) {
            return STATE;
        }
        present.copy(saved);
        return present.started();
    }

    /** Returns a count. */
    public int count(int what) {
        if (isInside(what - 10, CODES)) {
            return present.environment.durations[what - 10];
        }
        if (isInside(what - 20, CODES)) {
            return present.environment.failing[what - 20];
        }
        switch (what) {
            case 0: return present.environment.minute;
            case 1: return present.started();
            case 2: return present.instancesWith(RUNNING);
            case 3: return present.instancesWith(COMPENSATING);
            case 4: return fed;
            case 5: return present.allDefined();
            default: return NONE;
        }
    }

    /** Returns the instance with this number, or null if there is none. */
    private Instance find(int number) {
        if (!isInside(number, INSTANCES)) {
            return null;
        }
        Instance found = present.instances[number];
        return found.status == FREE ? null : found;
    }

    /** Puts a value of the environment in place of the one of a code, and returns that one. */
    private static int replaced(int[] row, int code, int value) {
        if (!isInside(code, CODES) || !isInside(code, row.length)) {
            return NONE;
        }
        if (value < 0 || value > MOST_ENVIRONMENT) {
            return BAD;
        }
        int previous = row[code];
        row[code] = value;
        return previous;
    }

    private static boolean isInside(int index, int bound) {
        return index >= 0 && index < bound;
    }

    private static void copyRow(int[] from, int[] to) {
        System.arraycopy(from, 0, to, 0, Math.min(from.length, to.length));
    }

    /**
     * Returns the bits of the float that is nearest to whole / parts. They are made of whole numbers,
     * since the language leaves no way to look into a float. The numbers of six instances stay below
     * 2 to the power of 24, so that whole is never too large, and never halfway between two floats.
     */
    private static int floatBits(int whole, int parts) {
        if (whole <= 0 || parts <= 0) {
            return 0;
        }
        long above = whole;
        int exponent = 0;
        for (; exponent > -64 && above < (long) parts << 23; exponent--) {
            above <<= 1;
        }
        long mantissa = (2 * above / parts + 1) / 2;
        // The leading bit of the mantissa, and one that rounding adds, carry into the exponent.
        return (exponent + 149 << 23) + (int) mantissa;
    }

    /** A version of a workflow: its items in the order of the text. A body is named by its first item. */
    private static final class Version {
        final int workflow;
        final int number;
        final int[] kind = new int[ITEMS];
        final int[] place = new int[ITEMS];
        // The code of a task or signal, or the variable of a set or choice.
        final int[] code = new int[ITEMS];
        // The number of an item: for a task the one after +, for a signal -1 if there is none.
        final int[] amount = new int[ITEMS];
        // The digit of an item: after r or q, and for a set 1 if it adds.
        final int[] digit = new int[ITEMS];
        final int[] reversal = new int[ITEMS];
        // The next item of the same body, or -1, and the index behind the last item within an item.
        final int[] next = new int[ITEMS];
        final int[] end = new int[ITEMS];
        // The bodies of each item; where it has fewer, -1.
        final int[] bodies = new int[ITEMS * BODIES];
        int items;
        int tasks;
        int depth;
        int length;
        int width;

        Version(int workflow, int number) {
            this.workflow = workflow;
            this.number = number;
        }

        void clear(int newLength) {
            items = 0;
            tasks = 0;
            depth = 0;
            length = newLength;
        }

        /** Adds an item and returns its index; there must be room for it. */
        int add(int newKind, int newPlace) {
            int item = items;
            kind[item] = newKind;
            place[item] = newPlace;
            code[item] = 0;
            amount[item] = newKind == SIGNAL ? -1 : 0;
            digit[item] = 0;
            reversal[item] = -1;
            next[item] = -1;
            for (int i = 0; i < BODIES; i++) {
                bodies[item * BODIES + i] = -1;
            }
            items++;
            if (newKind == TASK) {
                tasks++;
            }
            return item;
        }

        /** Returns a body of an item, or -1 if it has none with this index. */
        int body(int item, int i) {
            int at = item * BODIES + i;
            return i >= 0 && i < BODIES && at >= 0 && at < ITEMS * BODIES ? bodies[at] : -1;
        }
    }

    /**
     * Reads a text into a version. Once the text has been found wrong, every function does nothing
     * more, so that the place where the reader stands remains the error position.
     */
    private static final class Reader {
        private static final int END = -1;
        private static final int LONGEST_NUMBER = 3;

        // How many items can run at the same time within each item.
        private final int[] widths = new int[ITEMS];
        private int[] text = new int[0];
        private int length;
        private Version target;
        private int reason;
        int at;

        /** Reads a text and returns why it is wrong, or RIGHT. */
        int read(int[] newText, int newLength, Version newTarget) {
            text = newText;
            length = Math.min(newLength, newText.length);
            target = newTarget;
            reason = RIGHT;
            at = 0;
            target.clear(length);
            target.width = readBody(0);
            if (at < length) {
                fail(FORM);
            }
            return reason;
        }

        /** Reads a body and returns how many of its items can run at the same time. */
        private int readBody(int open) {
            int width = 0;
            int last = -1;
            boolean goesOn = true;
            for (int i = 0; i <= ITEMS && goesOn; i++) {
                int item = readItem(open);
                if (!isInside(item, ITEMS)) {
                    return 0;
                }
                if (last >= 0) {
                    target.next[last] = item;
                }
                last = item;
                width = Math.max(width, widths[item]);
                goesOn = takes(';');
            }
            return width;
        }

        /** Reads an item and returns its index, or -1 if the text is wrong. */
        private int readItem(int open) {
            int kind = kindOf(sign());
            if (reason != RIGHT || kind < 0) {
                fail(FORM);
                return -1;
            }
            boolean opens = kind == CHOICE || kind == PARALLEL;
            if (target.items >= ITEMS || opens && open >= OPEN) {
                fail(LIMIT);
                return -1;
            }
            int item = target.add(kind, at);
            widths[item] = 1;
            at++;
            if (opens) {
                target.depth = Math.max(target.depth, open + 1);
            }
            switch (kind) {
                case TASK: readTask(item); break;
                case WAIT: target.amount[item] = readNumber(); break;
                case SIGNAL: readSignal(item); break;
                case SET: readSet(item); break;
                case CHOICE: readChoice(item, open + 1); break;
                default: readParallel(item, open + 1); break;
            }
            target.end[item] = target.items;
            return reason == RIGHT ? item : -1;
        }

        private void readTask(int item) {
            target.code[item] = readCode();
            if (takes('r')) {
                target.digit[item] = readBetween('0', '9');
                if (takes('+')) {
                    target.amount[item] = readNumber();
                }
            }
            if (takes('c')) {
                target.reversal[item] = readCode();
            }
        }

        private void readSignal(int item) {
            target.code[item] = readCode();
            if (takes(',')) {
                target.amount[item] = readNumber();
            }
        }

        private void readSet(int item) {
            target.code[item] = readVariable();
            if (takes('+')) {
                target.digit[item] = 1;
            } else {
                expect('=');
            }
            target.amount[item] = takes('-') ? -readNumber() : readNumber();
        }

        private void readChoice(int item, int open) {
            expect('x');
            target.code[item] = readVariable();
            expect('<');
            target.amount[item] = takes('-') ? -readNumber() : readNumber();
            expect(':');
            int first = readBodyOf(item, 0, open);
            expect('|');
            int second = readBodyOf(item, 1, open);
            expect(']');
            widths[item] = Math.max(first, second);
        }

        private void readParallel(int item, int open) {
            int width = readBodyOf(item, 0, open);
            int bodies = 1;
            for (; bodies < BODIES && takes('|'); bodies++) {
                width += readBodyOf(item, bodies, open);
            }
            if (takes('|')) {
                fail(kindOf(sign()) < 0 ? FORM : LIMIT);
            }
            expect(')');
            target.digit[item] = takes('q') ? 1 + readBetween('1', '0' + bodies) : bodies;
            widths[item] = width;
        }

        private int readBodyOf(int item, int i, int open) {
            target.bodies[item * BODIES + i] = target.items;
            return readBody(open);
        }

        private int readCode() {
            return readBetween('a', 'h');
        }

        private int readVariable() {
            return readBetween('0', '3');
        }

        private int readNumber() {
            int number = readBetween('0', '9');
            for (int digits = 1; digits < LONGEST_NUMBER && number > 0 && isDigit(sign()); digits++) {
                number = 10 * number + readBetween('0', '9');
            }
            return number;
        }

        /** Takes a sign from the first one to the last one, and returns how far it is from the first. */
        private int readBetween(int first, int last) {
            int sign = sign();
            if (reason != RIGHT || sign < first || sign > last) {
                fail(FORM);
                return 0;
            }
            at++;
            return sign - first;
        }

        private void expect(int sign) {
            if (!takes(sign)) {
                fail(FORM);
            }
        }

        /** Takes the sign if the text goes on with it. */
        private boolean takes(int sign) {
            if (reason != RIGHT || sign() != sign) {
                return false;
            }
            at++;
            return true;
        }

        private void fail(int newReason) {
            if (reason == RIGHT) {
                reason = newReason;
            }
        }

        private int sign() {
            return at >= 0 && at < length && at < text.length ? text[at] : END;
        }

        private static boolean isDigit(int sign) {
            return sign >= '0' && sign <= '9';
        }

        private static int kindOf(int sign) {
            switch (sign) {
                case 't': return TASK;
                case 'w': return WAIT;
                case 's': return SIGNAL;
                case 'x': return SET;
                case '[': return CHOICE;
                case '(': return PARALLEL;
                default: return -1;
            }
        }
    }

    /** The minute, and what the codes do. */
    private static final class Environment {
        final int[] durations = new int[CODES];
        final int[] failing = new int[CODES];
        int minute;

        Environment() {
            Arrays.fill(durations, 1);
        }

        void copy(Environment other) {
            minute = other.minute;
            copyRow(other.durations, durations);
            copyRow(other.failing, failing);
        }

        /** Returns the minute at which an attempt ends that begins now. */
        int endOfAttempt(int code) {
            return code >= 0 && code < CODES ? minute + durations[code] : minute;
        }

        /** Ends an attempt and returns whether it succeeds. */
        boolean succeeds(int code) {
            if (code < 0 || code >= CODES || failing[code] <= 0) {
                return true;
            }
            failing[code]--;
            return false;
        }
    }

    /** The entries of an instance: all are counted, the first ones are kept, each in one number. */
    private static final class History {
        private static final int VALUE_BITS = 3, KIND_BITS = 4;

        private final Environment environment;
        private final int[] rows;
        int entries;

        History(Environment environment, int most) {
            this.environment = environment;
            rows = new int[Math.max(most, 0)];
        }

        void copy(History other) {
            entries = other.entries;
            System.arraycopy(other.rows, 0, rows, 0, Math.min(other.kept(), rows.length));
        }

        /** Adds an entry of the present minute. */
        void add(int kind, int value) {
            if (entries >= 0 && entries < rows.length) {
                rows[entries] = (environment.minute << KIND_BITS | kind) << VALUE_BITS | value;
            }
            entries++;
        }

        int kept() {
            return Math.min(entries, rows.length);
        }

        int minuteOf(int i) {
            return isInside(i, rows.length) ? rows[i] >> KIND_BITS + VALUE_BITS : 0;
        }

        int kindOf(int i) {
            return isInside(i, rows.length) ? rows[i] >> VALUE_BITS & (1 << KIND_BITS) - 1 : 0;
        }

        int valueOf(int i) {
            return isInside(i, rows.length) ? rows[i] & (1 << VALUE_BITS) - 1 : 0;
        }

        int entriesOf(int kind) {
            int found = 0;
            for (int i = 0; i < kept(); i++) {
                if (kindOf(i) == kind) {
                    found++;
                }
            }
            return found;
        }

        int attempts() {
            return entriesOf(ATTEMPT_BEGINS) + entriesOf(REVERSAL_BEGINS);
        }

        int lastStatus() {
            int status = RUNNING;
            for (int i = 0; i < kept(); i++) {
                if (kindOf(i) == STATUS_CHANGED) {
                    status = valueOf(i);
                }
            }
            return status;
        }
    }

    /** An instance: how far each item and each body of its version has come. */
    private static final class Instance {
        // How far an item or body has come; those from RUNS to REVERSES are going on. A task RESTS
        // between two attempts, a parallel REVERSES when it compensates.
        private static final int IDLE = 0, RUNS = 1, RESTS = 2, REVERSES = 3;
        private static final int DONE = 4, FAILED = 5, CANCELLED = 6;
        // What becomes of a task that was done.
        private static final int TAKEN_BACK = 7, LEFT_STUCK = 8;
        // In place of a parallel, this one stands for the instance that compensates.
        private static final int WHOLE = ITEMS;
        private static final int MOST_ATTEMPTS = 10, MOST_REVERSALS = 3;

        private final Environment environment;
        final History history;
        Version plan;
        int status = FREE;
        int started;
        int ended;
        int done;
        int reversed;
        int stuck;
        final int[] variables = new int[VARIABLES];
        final int[] pending = new int[CODES];
        private final int[] state = new int[ITEMS];
        private final int[] bodyState = new int[ITEMS];
        private final int[] bodyItem = new int[ITEMS];
        // The tasks in the order in which they were done.
        private final int[] order = new int[ITEMS];
        // The minute at which an item goes on, and its attempts so far. For what compensates: the minute
        // at which its attempt ends, the attempts that failed, and the task that it reverses, or -1.
        private final int[] until = new int[ITEMS + 1];
        private final int[] attempts = new int[ITEMS + 1];
        private final int[] reversing = new int[ITEMS + 1];

        Instance(Environment environment, Version plan, int entries) {
            this.environment = environment;
            this.plan = plan;
            history = new History(environment, entries);
        }

        void copy(Instance other) {
            status = other.status;
            plan = other.plan;
            started = other.started;
            ended = other.ended;
            done = other.done;
            reversed = other.reversed;
            stuck = other.stuck;
            history.copy(other.history);
            copyRow(other.variables, variables);
            copyRow(other.pending, pending);
            copyRow(other.state, state);
            copyRow(other.bodyState, bodyState);
            copyRow(other.bodyItem, bodyItem);
            copyRow(other.order, order);
            copyRow(other.until, until);
            copyRow(other.attempts, attempts);
            copyRow(other.reversing, reversing);
        }

        /** Begins to run on a version, at the present minute. */
        void begin(Version newPlan) {
            plan = newPlan;
            status = RUNNING;
            started = environment.minute;
            ended = NOTHING;
            done = 0;
            reversed = 0;
            stuck = 0;
            history.entries = 0;
            Arrays.fill(variables, 0);
            Arrays.fill(pending, 0);
            Arrays.fill(state, IDLE);
            Arrays.fill(bodyState, IDLE);
            beginBody(0, 0);
            look();
        }

        /** Does all that is to be done at the present minute. */
        void look() {
            if (status == RUNNING) {
                goOn(0, 0);
            }
            if (status == RUNNING && bodyState[0] == DONE) {
                become(COMPLETED);
            }
            if (status == RUNNING && bodyState[0] == FAILED) {
                become(COMPENSATING);
                reversing[WHOLE] = -1;
            }
            if (status == COMPENSATING && reversesAll(WHOLE)) {
                become(stuck > 0 ? BROKEN : REVERSED);
            }
        }

        /** Cancels all that runs and compensates. */
        void giveUp() {
            cancel(0, ITEMS);
            bodyState[0] = FAILED;
            look();
        }

        private void become(int newStatus) {
            status = newStatus;
            if (hasEnded()) {
                ended = environment.minute;
            }
            history.add(STATUS_CHANGED, newStatus);
        }

        boolean hasEnded() {
            return status == COMPLETED || status == REVERSED || status == BROKEN;
        }

        private void beginBody(int body, int depth) {
            if (!isInside(body, ITEMS) || depth > OPEN) {
                return;
            }
            bodyState[body] = RUNS;
            bodyItem[body] = body;
            beginItem(body, depth);
            goOn(body, depth);
        }

        /** Lets a body go as far as it can, if it runs. */
        private void goOn(int body, int depth) {
            if (!isInside(body, ITEMS) || bodyState[body] != RUNS || depth > OPEN) {
                return;
            }
            int item = bodyItem[body];
            for (int i = 0; i < ITEMS && isInside(item, ITEMS); i++) {
                lookAt(item, depth);
                if (goesOn(item)) {
                    return;
                }
                int next = plan.next[item];
                if (state[item] == FAILED || next < 0) {
                    bodyState[body] = state[item] == FAILED ? FAILED : DONE;
                    return;
                }
                bodyItem[body] = next;
                beginItem(next, depth);
                item = next;
            }
        }

        private void beginItem(int item, int depth) {
            if (!isInside(item, ITEMS)) {
                return;
            }
            state[item] = RUNS;
            until[item] = NEVER;
            attempts[item] = 0;
            switch (plan.kind[item]) {
                case TASK: beginAttempt(item); break;
                case WAIT: until[item] = environment.minute + plan.amount[item]; break;
                case SIGNAL: beginSignal(item); break;
                case CHOICE: beginBody(chosenBody(item), depth + 1); break;
                case PARALLEL: beginBodies(item, depth + 1); break;
                default: break;
            }
        }

        private void beginSignal(int item) {
            if (plan.amount[item] >= 0) {
                until[item] = environment.minute + plan.amount[item];
            }
        }

        private void beginBodies(int item, int depth) {
            for (int i = 0; i < BODIES; i++) {
                beginBody(plan.body(item, i), depth);
            }
        }

        private void beginAttempt(int item) {
            int code = plan.code[item];
            state[item] = RUNS;
            attempts[item]++;
            until[item] = environment.endOfAttempt(code);
            history.add(ATTEMPT_BEGINS, code);
        }

        private void lookAt(int item, int depth) {
            switch (plan.kind[item]) {
                case TASK: lookAtTask(item); break;
                case WAIT: lookAtWait(item); break;
                case SIGNAL: lookAtSignal(item); break;
                case SET: changeVariable(item); break;
                case CHOICE: lookAtChoice(item, depth + 1); break;
                default: lookAtParallel(item, depth + 1); break;
            }
        }

        private void lookAtTask(int item) {
            // Each attempt is begun once and ended once.
            for (int i = 0; i < 2 * MOST_ATTEMPTS && goesOn(item); i++) {
                if (until[item] > environment.minute) {
                    return;
                }
                if (state[item] == RESTS) {
                    beginAttempt(item);
                } else {
                    endAttempt(item);
                }
            }
        }

        private void endAttempt(int item) {
            int code = plan.code[item];
            if (environment.succeeds(code)) {
                state[item] = DONE;
                if (isInside(done, ITEMS)) {
                    order[done] = item;
                    done++;
                }
                history.add(TASK_DONE, code);
                return;
            }
            history.add(ATTEMPT_FAILS, code);
            if (attempts[item] > plan.digit[item]) {
                state[item] = FAILED;
                return;
            }
            state[item] = RESTS;
            until[item] += plan.amount[item] << attempts[item] - 1;
        }

        private void lookAtWait(int item) {
            if (until[item] <= environment.minute) {
                state[item] = DONE;
            }
        }

        private void lookAtSignal(int item) {
            int code = plan.code[item];
            if (isInside(code, CODES) && pending[code] > 0) {
                pending[code]--;
                state[item] = DONE;
                history.add(SIGNAL_TAKEN, code);
            } else if (until[item] <= environment.minute) {
                state[item] = FAILED;
                history.add(SIGNAL_FAILS, code);
            }
        }

        private void changeVariable(int item) {
            int variable = plan.code[item];
            if (isInside(variable, VARIABLES)) {
                int before = plan.digit[item] == 1 ? variables[variable] : 0;
                variables[variable] = before + plan.amount[item];
                history.add(VARIABLE_CHANGED, variable);
            }
            state[item] = DONE;
        }

        /** Returns the body with which a choice begins, by the variable as it is now. */
        private int chosenBody(int item) {
            int variable = plan.code[item];
            boolean isLess = isInside(variable, VARIABLES) && variables[variable] < plan.amount[item];
            return plan.body(item, isLess ? 0 : 1);
        }

        private void lookAtChoice(int item, int depth) {
            for (int i = 0; i < BODIES; i++) {
                int body = plan.body(item, i);
                // A body begins once at most, so the one that is not idle is the one that was chosen.
                if (isInside(body, ITEMS) && bodyState[body] != IDLE) {
                    goOn(body, depth);
                    state[item] = bodyState[body];
                }
            }
        }

        private void lookAtParallel(int item, int depth) {
            if (state[item] == RUNS) {
                for (int i = 0; i < BODIES; i++) {
                    goOn(plan.body(item, i), depth);
                }
                join(item);
            }
            if (state[item] == REVERSES && reversesAll(item)) {
                state[item] = DONE;
                history.add(PARALLEL_DONE, bodiesWith(item, DONE));
            }
        }

        /** Asks whether the quorum of a parallel is reached, or out of reach. */
        private void join(int item) {
            int quorum = plan.digit[item];
            int doneBodies = bodiesWith(item, DONE);
            if (doneBodies < quorum && doneBodies + bodiesWith(item, RUNS) >= quorum) {
                return;
            }
            cancelBodies(item);
            state[item] = doneBodies >= quorum ? REVERSES : FAILED;
            reversing[item] = -1;
        }

        private int bodiesWith(int item, int wanted) {
            int found = 0;
            for (int i = 0; i < BODIES; i++) {
                int body = plan.body(item, i);
                if (isInside(body, ITEMS) && bodyState[body] == wanted) {
                    found++;
                }
            }
            return found;
        }

        private void cancelBodies(int item) {
            for (int i = 0; i < BODIES; i++) {
                int body = plan.body(item, i);
                if (isInside(body, ITEMS) && bodyState[body] == RUNS) {
                    bodyState[body] = CANCELLED;
                    history.add(BODY_CANCELLED, i);
                }
            }
            cancel(item + 1, plan.end[item]);
        }

        /** Ends the items from one to another, compensations that are going on among them. */
        private void cancel(int from, int to) {
            for (int item = from; item < to && isInside(item, ITEMS); item++) {
                if (goesOn(item)) {
                    state[item] = CANCELLED;
                }
            }
        }

        private boolean goesOn(int item) {
            return state[item] >= RUNS && state[item] <= REVERSES;
        }

        /** Goes on with a compensation, of a parallel or of the whole, and returns whether it has ended. */
        private boolean reversesAll(int owner) {
            for (int i = 0; i <= MOST_REVERSALS * ITEMS; i++) {
                if (reversing[owner] >= 0) {
                    if (until[owner] > environment.minute) {
                        return false;
                    }
                    endReversal(owner, reversing[owner]);
                }
                if (reversing[owner] < 0) {
                    reversing[owner] = lastToReverse(owner);
                    attempts[owner] = 0;
                }
                int task = reversing[owner];
                if (!isInside(task, ITEMS)) {
                    return true;
                }
                until[owner] = environment.endOfAttempt(plan.reversal[task]);
                history.add(REVERSAL_BEGINS, plan.reversal[task]);
            }
            return false;
        }

        /** Ends an attempt to reverse a task, which remains the one that is reversed if it needs another. */
        private void endReversal(int owner, int task) {
            if (!isInside(task, ITEMS)) {
                return;
            }
            if (environment.succeeds(plan.reversal[task])) {
                state[task] = TAKEN_BACK;
                reversed++;
                reversing[owner] = -1;
                history.add(TASK_REVERSED, plan.code[task]);
                return;
            }
            attempts[owner]++;
            if (attempts[owner] >= MOST_REVERSALS) {
                state[task] = LEFT_STUCK;
                stuck++;
                reversing[owner] = -1;
                history.add(TASK_STUCK, plan.code[task]);
            }
        }

        /** Returns the task that was done last of those that are still to be reversed, or -1. */
        private int lastToReverse(int owner) {
            for (int i = Math.min(done, ITEMS) - 1; i >= 0; i--) {
                int task = order[i];
                if (isInside(task, ITEMS) && isReversible(task) && concerns(owner, task)) {
                    return task;
                }
            }
            return -1;
        }

        private boolean isReversible(int task) {
            return state[task] == DONE && plan.reversal[task] >= 0;
        }

        /** Tells whether a task is in a body of the owner that was not done. */
        private boolean concerns(int owner, int task) {
            if (!isInside(owner, ITEMS)) {
                return true;
            }
            if (task <= owner || task >= plan.end[owner]) {
                return false;
            }
            int within = -1;
            for (int i = 0; i < BODIES; i++) {
                int body = plan.body(owner, i);
                within = body <= task ? Math.max(within, body) : within;
            }
            return isInside(within, ITEMS) && bodyState[within] != DONE;
        }

        int runningItems() {
            int found = 0;
            for (int item = 0; item < ITEMS; item++) {
                if (isRunning(item)) {
                    found++;
                }
            }
            return found;
        }

        /** Returns where the text has the running item with this index, or NONE. */
        int placeOfRunning(int i) {
            int found = 0;
            for (int item = 0; item < ITEMS; item++) {
                if (isRunning(item)) {
                    if (found == i) {
                        return plan.place[item];
                    }
                    found++;
                }
            }
            return NONE;
        }

        private boolean isRunning(int item) {
            int kind = plan.kind[item];
            return goesOn(item) && kind != CHOICE && kind != PARALLEL;
        }

        /** Returns the next minute at which something happens by itself, or NOTHING. */
        int nextMinute() {
            int least = status == COMPENSATING ? until[WHOLE] : NEVER;
            for (int item = 0; item < ITEMS; item++) {
                if (goesOn(item)) {
                    least = Math.min(least, until[item]);
                }
            }
            return least == NEVER ? NOTHING : least;
        }
    }

    /** All that a snapshot contains, but for the texts of the versions. */
    private static final class World {
        final Environment environment;
        final Instance[] instances = new Instance[INSTANCES];
        // How many versions each workflow has.
        final int[] defined = new int[WORKFLOWS];
        int reason = RIGHT;
        int wrongAt;

        World(Environment environment, Version none, int entries) {
            this.environment = environment;
            for (int i = 0; i < INSTANCES; i++) {
                instances[i] = new Instance(environment, none, entries);
            }
        }

        void copy(World other) {
            environment.copy(other.environment);
            copyRow(other.defined, defined);
            reason = other.reason;
            wrongAt = other.wrongAt;
            for (int i = 0; i < INSTANCES; i++) {
                instances[i].copy(other.instances[i]);
            }
        }

        void letPass(int minutes) {
            for (int i = 0; i < minutes; i++) {
                environment.minute++;
                for (int j = 0; j < INSTANCES; j++) {
                    instances[j].look();
                }
            }
        }

        int lowestFree() {
            for (int i = 0; i < INSTANCES; i++) {
                if (instances[i].status == FREE) {
                    return i;
                }
            }
            return -1;
        }

        int allDefined() {
            int versions = 0;
            for (int i = 0; i < WORKFLOWS; i++) {
                versions += defined[i];
            }
            return versions;
        }

        int instancesOf(int workflow, int status) {
            int found = 0;
            for (int i = 0; i < INSTANCES; i++) {
                if (instances[i].status == status && instances[i].plan.workflow == workflow) {
                    found++;
                }
            }
            return found;
        }

        int instancesWith(int status) {
            int found = 0;
            for (int i = 0; i < WORKFLOWS; i++) {
                found += instancesOf(i, status);
            }
            return found;
        }

        int startedOf(int workflow) {
            return endedOf(workflow) + instancesOf(workflow, RUNNING) + instancesOf(workflow, COMPENSATING);
        }

        int started() {
            return INSTANCES - instancesWith(FREE);
        }

        int endedOf(int workflow) {
            int taken = instancesOf(workflow, REVERSED) + instancesOf(workflow, BROKEN);
            return instancesOf(workflow, COMPLETED) + taken;
        }

        /** Returns the minutes that the ended instances of a workflow took, all together. */
        int minutesOf(int workflow) {
            int minutes = 0;
            for (int i = 0; i < INSTANCES; i++) {
                if (instances[i].hasEnded() && instances[i].plan.workflow == workflow) {
                    minutes += instances[i].ended - instances[i].started;
                }
            }
            return minutes;
        }
    }
}
