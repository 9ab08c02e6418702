/** The threads of a Lisp, which go on in turns: the same calls always have the same outcome. */
public final class ThreadHall {
    public static final int NEW = 0, READY = 1, LOCKING = 2, WAITING = 3, JOINING = 4, OVER = 5;

    private static final int THREADS = 5, SPECIALS = 4, LOCKS = 3, CONDITIONS = 3;
    private static final int PROGRAM_LIMIT = 24, BINDING_LIMIT = 12, HOOK_LIMIT = 4, SAID_LIMIT = 40;
    private static final int TURN_LIMIT = 40, SLICE_LIMIT = 20, FIRST_SLICE = 4;
    private static final int NONE = -1, NO_HANDLER = 24, ERROR_SPECIAL = 3;

    private static final int SET = 0, ADD = 1, MOVE = 2, BIND = 3, UNBIND = 4, LOCK = 5, UNLOCK = 6;
    private static final int TRY = 7, WAIT = 8, TELL = 9, TELLALL = 10, START = 11, JOIN = 12;
    private static final int INTERRUPT = 13, HANDLE = 14, HOOK = 15, GO = 16, IFZERO = 17;
    private static final int SAY = 18, END = 19, PASS = 20;

    private static final int NO_ERROR = 0, TOO_MANY_BINDINGS = 1, NOT_BOUND = 2, LOCK_NOT_HAD = 3;
    private static final int STARTED_ALIVE = 4, NOT_TO_JOIN = 5, TOO_MANY_HOOKS = 6, INTERRUPTED = 7;

    // How many values (from 0) an operand may have, op by op; 0 stands for one that is not looked at.
    private static final int[] FIRST_VALUES =
        {4, 4, 4, 4, 4, 3, 3, 3, 3, 3, 3, 5, 5, 5, 25, 4, 25, 4, 4, 4, 0};
    private static final int[] SECOND_VALUES =
        {0, 0, 4, 0, 0, 0, 0, 4, 3, 0, 0, 0, 4, 0, 0, 0, 0, 25, 0, 0, 0};

    private final Strand[] strands;
    private final Mutex[] mutexes;
    private final Row[] conditions;
    private final int[] globals;
    private final int[] saidInts;
    private int saidCount;
    private int sliceLength;
    private int lastTurn;
    private int turns;
    private int instructions;
    private int errors;
    private int endings;

    public ThreadHall() {
        strands = new Strand[THREADS];
        for (int t = 0; t < THREADS; t++) {
            strands[t] = new Strand(t);
        }
        mutexes = new Mutex[LOCKS];
        for (int m = 0; m < LOCKS; m++) {
            mutexes[m] = new Mutex();
        }
        conditions = new Row[CONDITIONS];
        for (int c = 0; c < CONDITIONS; c++) {
            conditions[c] = new Row();
        }
        globals = new int[SPECIALS];
        saidInts = new int[SAID_LIMIT];
        sliceLength = FIRST_SLICE;
        lastTurn = NONE;
    }

    public int add(int t, int op, int a, int b)
            throws IllegalArgumentException, IllegalStateException, IndexOutOfBoundsException {
        requireBelow(t, THREADS);
        requireBelow(op, FIRST_VALUES.length);
        requireOperand(a, FIRST_VALUES[op]);
        requireOperand(b, SECOND_VALUES[op]);
        requireNotAlive(strands[t]);
        Program program = strands[t].program;
        if (program.size >= PROGRAM_LIMIT) {
            throw new IndexOutOfBoundsException();
        }
        program.append(op, a, b);
        return program.size;
    }

    public int clear(int t) throws IllegalArgumentException, IllegalStateException {
        requireBelow(t, THREADS);
        requireNotAlive(strands[t]);
        int had = strands[t].program.size;
        strands[t].program.size = 0;
        return had;
    }

    public int start(int t) throws IllegalArgumentException {
        requireBelow(t, THREADS);
        if (strands[t].isAlive()) {
            return 0;
        }
        strands[t].beginAnew();
        return 1;
    }

    public int run(int n) throws IllegalArgumentException {
        requireBetween(n, 1, TURN_LIMIT);
        int before = instructions;
        for (int k = 0; k < n; k++) {
            int t = nextReady();
            if (t == NONE) {
                break;
            }
            takeTurn(strands[t]);
        }
        return instructions - before;
    }

    public int interrupt(int t) throws IllegalArgumentException {
        requireBelow(t, THREADS);
        if (!strands[t].isAlive()) {
            return 0;
        }
        interruptAlive(strands[t]);
        return 1;
    }

    public int slice(int n) throws IllegalArgumentException {
        requireBetween(n, 1, SLICE_LIMIT);
        int was = sliceLength;
        sliceLength = n;
        return was;
    }

    public int global(int s, int v) throws IllegalArgumentException {
        requireBelow(s, SPECIALS);
        int was = globals[s];
        globals[s] = v;
        return was;
    }

    public int special(int t, int s) throws IllegalArgumentException {
        requireBelow(t, THREADS);
        requireBelow(s, SPECIALS);
        return read(strands[t], s);
    }

    public int look(int t, int what) throws IllegalArgumentException {
        requireBelow(t, THREADS);
        Strand strand = strands[t];
        switch (what) {
            case 0: return strand.state;
            case 1: return strand.place;
            case 2: return strand.result;
            case 3: return strand.bindings.size;
            case 4: return strand.hooks.size;
            case 5: return strand.marked ? 1 : 0;
            case 6: return strand.handler;
            case 7: return strand.done;
            case 8: return strand.starts;
            case 9: return strand.joiners.size;
            default: throw new IllegalArgumentException();
        }
    }

    public int lock(int m, int what) throws IllegalArgumentException {
        requireBelow(m, LOCKS);
        switch (what) {
            case 0: return mutexes[m].owner;
            case 1: return mutexes[m].often;
            case 2: return mutexes[m].row.size;
            case 3: return conditions[m].size;
            default: throw new IllegalArgumentException();
        }
    }

    public int said(int k) throws IndexOutOfBoundsException {
        if (k < 0 || k >= saidCount || k >= SAID_LIMIT) {
            throw new IndexOutOfBoundsException();
        }
        return saidInts[k];
    }

    public int count(int what) throws IllegalArgumentException {
        switch (what) {
            case 0: return saidCount;
            case 1: return instructions;
            case 2: return turns;
            case 3: return aliveCount();
            case 4: return readyCount();
            case 5: return errors;
            case 6: return lastTurn;
            case 7: return endings;
            default: throw new IllegalArgumentException();
        }
    }

    private static void requireBetween(int value, int least, int most) {
        if (value < least || value > most) {
            throw new IllegalArgumentException();
        }
    }

    private static void requireBelow(int value, int values) {
        requireBetween(value, 0, values - 1);
    }

    private static void requireOperand(int value, int values) {
        if (values > 0) {
            requireBelow(value, values);
        }
    }

    private static void requireNotAlive(Strand strand) {
        if (strand.isAlive()) {
            throw new IllegalStateException();
        }
    }

    private int aliveCount() {
        int alive = 0;
        for (int t = 0; t < THREADS; t++) {
            if (strands[t].isAlive()) {
                alive++;
            }
        }
        return alive;
    }

    private int readyCount() {
        int ready = 0;
        for (int t = 0; t < THREADS; t++) {
            if (strands[t].state == READY) {
                ready++;
            }
        }
        return ready;
    }

    private int nextReady() {
        for (int k = 1; k <= THREADS; k++) {
            int t = (lastTurn + k) % THREADS;
            if (strands[t].state == READY) {
                return t;
            }
        }
        return NONE;
    }

    private void takeTurn(Strand strand) {
        lastTurn = strand.number;
        turns++;
        if (strand.thrown) {
            raise(strand, INTERRUPTED);
        }
        Program program = strand.program;
        for (int k = 0; k < sliceLength; k++) {
            if (strand.state != READY) {
                return;
            }
            int at = strand.place;
            if (at >= program.size) {
                finish(strand, 0);
                return;
            }
            countInstruction(strand);
            int error = perform(strand, program.ops[at], program.firsts[at], program.seconds[at]);
            if (error != NO_ERROR) {
                raise(strand, error);
            }
            if (program.ops[at] == PASS) {
                return;
            }
        }
    }

    // The place moves on first, so that jumps and handlers have the last word on it.
    private void countInstruction(Strand strand) {
        strand.place++;
        strand.done++;
        instructions++;
    }

    /** Answers the error that the instruction ends in, so that it is raised in one place alone. */
    private int perform(Strand strand, int op, int a, int b) {
        switch (op) {
            case SET: write(strand, a, b); break;
            case ADD: write(strand, a, read(strand, a) + b); break;
            case MOVE: write(strand, a, read(strand, b)); break;
            case BIND: return bind(strand, a, b);
            case UNBIND: return unbind(strand, a);
            case LOCK: goFor(strand, a, 1); break;
            case UNLOCK: return unlock(strand, a);
            case TRY: tryLock(strand, a, b); break;
            case WAIT: return beginWait(strand, a, b);
            case TELL: tellFirst(conditions[a]); break;
            case TELLALL: tellAll(conditions[a]); break;
            case START: return startOther(strands[a]);
            case JOIN: return beginJoin(strand, a, b);
            case INTERRUPT: interruptAlive(strands[a]); break;
            case HANDLE: strand.handler = a; break;
            case HOOK: return hook(strand, a, b);
            case GO: strand.place = a; break;
            case IFZERO: jumpIfZero(strand, a, b); break;
            case SAY: keepSaid(read(strand, a)); break;
            case END: finish(strand, read(strand, a)); break;
            default: break;
        }
        return NO_ERROR;
    }

    private int read(Strand strand, int special) {
        int at = strand.bindings.latest(special);
        return at == NONE ? globals[special] : strand.bindings.values[at];
    }

    private void write(Strand strand, int special, int value) {
        int at = strand.bindings.latest(special);
        if (at == NONE) {
            globals[special] = value;
        } else {
            strand.bindings.values[at] = value;
        }
    }

    private static int bind(Strand strand, int special, int value) {
        if (strand.bindings.isFull()) {
            return TOO_MANY_BINDINGS;
        }
        strand.bindings.append(special, value);
        return NO_ERROR;
    }

    private static int unbind(Strand strand, int special) {
        int at = strand.bindings.latest(special);
        if (at == NONE) {
            return NOT_BOUND;
        }
        strand.bindings.takeOut(at);
        return NO_ERROR;
    }

    private static int hook(Strand strand, int special, int value) {
        if (strand.hooks.isFull()) {
            return TOO_MANY_HOOKS;
        }
        strand.hooks.append(special, value);
        return NO_ERROR;
    }

    private void jumpIfZero(Strand strand, int special, int place) {
        if (read(strand, special) == 0) {
            strand.place = place;
        }
    }

    private void keepSaid(int value) {
        if (saidCount < SAID_LIMIT) {
            saidInts[saidCount] = value;
        }
        saidCount++;
    }

    private void goFor(Strand strand, int m, int often) {
        Mutex mutex = mutexes[m];
        if (mutex.isOpenTo(strand.number)) {
            mutex.give(strand.number, often);
            strand.state = READY;
        } else {
            strand.wantedOften = often;
            strand.state = LOCKING;
            mutex.row.append(strand.number);
        }
    }

    private int unlock(Strand strand, int m) {
        Mutex mutex = mutexes[m];
        if (mutex.owner != strand.number) {
            return LOCK_NOT_HAD;
        }
        mutex.often--;
        if (mutex.often == 0) {
            passOn(mutex);
        }
        return NO_ERROR;
    }

    private void tryLock(Strand strand, int m, int special) {
        boolean open = mutexes[m].isOpenTo(strand.number);
        if (open) {
            mutexes[m].give(strand.number, 1);
        }
        write(strand, special, open ? 1 : 0);
    }

    private void passOn(Mutex mutex) {
        mutex.owner = NONE;
        mutex.often = 0;
        int t = mutex.row.takeFirst();
        if (t != NONE) {
            mutex.give(t, strands[t].wantedOften);
            strands[t].state = READY;
        }
    }

    private int beginWait(Strand strand, int c, int m) {
        Mutex mutex = mutexes[m];
        if (mutex.owner != strand.number) {
            return LOCK_NOT_HAD;
        }
        if (strand.marked) {
            return INTERRUPTED;
        }
        strand.condition = c;
        strand.wantedLock = m;
        strand.wantedOften = mutex.often;
        strand.state = WAITING;
        conditions[c].append(strand.number);
        passOn(mutex);
        return NO_ERROR;
    }

    private void tellFirst(Row row) {
        int t = row.takeFirst();
        if (t != NONE) {
            goFor(strands[t], strands[t].wantedLock, strands[t].wantedOften);
        }
    }

    private void tellAll(Row row) {
        for (int k = row.size; k > 0; k--) {
            tellFirst(row);
        }
    }

    private static int startOther(Strand other) {
        if (other.isAlive()) {
            return STARTED_ALIVE;
        }
        other.beginAnew();
        return NO_ERROR;
    }

    private int beginJoin(Strand strand, int t, int special) {
        Strand other = strands[t];
        if (other.state == OVER) {
            write(strand, special, other.result);
            return NO_ERROR;
        }
        if (other.state == NEW || t == strand.number) {
            return NOT_TO_JOIN;
        }
        if (strand.marked) {
            return INTERRUPTED;
        }
        strand.joined = t;
        strand.joinSpecial = special;
        strand.state = JOINING;
        other.joiners.append(strand.number);
        return NO_ERROR;
    }

    private void interruptAlive(Strand strand) {
        if (strand.state == WAITING) {
            conditions[strand.condition].takeOut(strand.number);
            strand.thrown = true;
            goFor(strand, strand.wantedLock, strand.wantedOften);
        } else if (strand.state == JOINING) {
            strands[strand.joined].joiners.takeOut(strand.number);
            strand.thrown = true;
            strand.state = READY;
        } else if (strand.isAlive()) {
            strand.marked = true;
        }
    }

    private void raise(Strand strand, int error) {
        errors++;
        if (error == INTERRUPTED) {
            strand.forgetInterrupt();
        }
        if (strand.handler == NO_HANDLER) {
            finish(strand, -error);
            return;
        }
        strand.place = strand.handler;
        strand.handler = NO_HANDLER;
        write(strand, ERROR_SPECIAL, error);
    }

    private void finish(Strand strand, int result) {
        runHooks(strand);
        strand.forgetAll();
        strand.result = result;
        strand.state = OVER;
        endings++;
        for (int m = 0; m < LOCKS; m++) {
            if (mutexes[m].owner == strand.number) {
                passOn(mutexes[m]);
            }
        }
        wakeJoiners(strand);
    }

    private void runHooks(Strand strand) {
        Pairs hooks = strand.hooks;
        for (int k = hooks.size - 1; k >= 0; k--) {
            int special = hooks.specials[k];
            write(strand, special, read(strand, special) + hooks.values[k]);
        }
    }

    private void wakeJoiners(Strand strand) {
        for (int k = strand.joiners.size; k > 0; k--) {
            int t = strand.joiners.takeFirst();
            if (t != NONE) {
                write(strands[t], strands[t].joinSpecial, strand.result);
                strands[t].state = READY;
            }
        }
    }

    /** A thread of the document. */
    private static final class Strand {
        final int number;
        final Program program = new Program();
        final Pairs bindings = new Pairs(BINDING_LIMIT);
        final Pairs hooks = new Pairs(HOOK_LIMIT);
        final Row joiners = new Row();
        int state = NEW;
        int place;
        int result;
        int handler = NO_HANDLER;
        int done;
        int starts;
        boolean marked;
        // Interrupted out of a WAIT or JOIN; unlike a mark, it waits for the next turn alone.
        boolean thrown;
        int condition;
        int wantedLock;
        int wantedOften;
        int joined;
        int joinSpecial;

        Strand(int number) {
            this.number = number;
        }

        boolean isAlive() {
            return state != NEW && state != OVER;
        }

        void beginAnew() {
            forgetAll();
            state = READY;
            place = 0;
            done = 0;
            starts++;
        }

        void forgetAll() {
            bindings.size = 0;
            hooks.size = 0;
            handler = NO_HANDLER;
            forgetInterrupt();
        }

        void forgetInterrupt() {
            marked = false;
            thrown = false;
        }
    }

    /** The instructions of a thread; made once, as they are written over when it is cleared. */
    private static final class Program {
        final int[] ops = new int[PROGRAM_LIMIT];
        final int[] firsts = new int[PROGRAM_LIMIT];
        final int[] seconds = new int[PROGRAM_LIMIT];
        int size;

        void append(int op, int a, int b) {
            if (size < PROGRAM_LIMIT) {
                ops[size] = op;
                firsts[size] = a;
                seconds[size] = b;
                size++;
            }
        }
    }

    /** Specials with a value each, the oldest first: bindings or hooks. */
    private static final class Pairs {
        final int[] specials;
        final int[] values;
        int size;

        Pairs(int limit) {
            specials = new int[limit];
            values = new int[limit];
        }

        boolean isFull() {
            return size >= specials.length;
        }

        int latest(int special) {
            for (int k = size - 1; k >= 0; k--) {
                if (specials[k] == special) {
                    return k;
                }
            }
            return NONE;
        }

        void append(int special, int value) {
            if (!isFull()) {
                specials[size] = special;
                values[size] = value;
                size++;
            }
        }

        void takeOut(int at) {
            for (int k = at + 1; k < size; k++) {
                specials[k - 1] = specials[k];
                values[k - 1] = values[k];
            }
            size--;
        }
    }

    /** Threads that stand behind one another; each stands in one row at most, so all have room. */
    private static final class Row {
        final int[] threads = new int[THREADS];
        int size;

        void append(int t) {
            if (size < THREADS) {
                threads[size] = t;
                size++;
            }
        }

        int takeFirst() {
            if (size == 0) {
                return NONE;
            }
            int first = threads[0];
            takeOut(first);
            return first;
        }

        void takeOut(int t) {
            int kept = 0;
            for (int k = 0; k < size; k++) {
                if (threads[k] != t) {
                    threads[kept] = threads[k];
                    kept++;
                }
            }
            size = kept;
        }
    }

    /** A lock of the document. */
    private static final class Mutex {
        final Row row = new Row();
        int owner = NONE;
        int often;

        boolean isOpenTo(int t) {
            return owner == NONE || owner == t;
        }

        void give(int t, int times) {
            owner = t;
            often += times;
        }
    }
}
