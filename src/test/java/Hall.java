import java.lang.reflect.Method;
import java.lang.reflect.Modifier;
import java.util.Arrays;
import java.util.Comparator;

/** What the tests have in common: the names of the instructions, programs, and the tally of answers. */
abstract class Hall {
    static final int SET = 0, ADD = 1, MOVE = 2, BIND = 3, UNBIND = 4, LOCK = 5, UNLOCK = 6, TRY = 7;
    static final int WAIT = 8, TELL = 9, TELLALL = 10, START = 11, JOIN = 12, INTERRUPT = 13;
    static final int HANDLE = 14, HOOK = 15, GO = 16, IFZERO = 17, SAY = 18, END = 19, PASS = 20;

    static final int STATE = 0, PLACE = 1, RESULT = 2, BINDINGS = 3, HOOKS = 4, MARKED = 5;
    static final int HANDLER = 6, DONE = 7, STARTS = 8, JOINERS = 9;
    static final int OWNER = 0, OFTEN = 1, LOCK_ROW = 2, CONDITION_ROW = 3;
    static final int SAIDS = 0, INSTRUCTIONS = 1, TURNS = 2, ALIVE = 3, READIES = 4, ERRORS = 5;
    static final int LAST = 6, ENDED = 7;

    private int passed;
    private int failed;
    private String running = "";

    /** Runs every test method there is, so that none can be left out of a list by mistake. */
    void runAll() {
        Method[] methods = getClass().getDeclaredMethods();
        Arrays.sort(methods, Comparator.comparing(Method::getName));
        for (Method method : methods) {
            int hidden = Modifier.STATIC | Modifier.PRIVATE;
            if ((method.getModifiers() & hidden) == 0 && method.getParameterCount() == 0) {
                runOne(method);
            }
        }
        close();
    }

    private void runOne(Method method) {
        running = method.getName() + ": ";
        try {
            method.invoke(this);
        } catch (ReflectiveOperationException e) {
            tally(false, "stopped by " + e.getCause());
        }
        running = "";
    }

    static int[] op(int op) {
        return new int[] {op, 0, 0};
    }

    static int[] op(int op, int a) {
        return new int[] {op, a, 0};
    }

    static int[] op(int op, int a, int b) {
        return new int[] {op, a, b};
    }

    static void load(ThreadHall hall, int t, int[]... instructions) {
        for (int[] one : instructions) {
            hall.add(t, one[0], one[1], one[2]);
        }
    }

    static void loadAndStart(ThreadHall hall, int t, int[]... instructions) {
        load(hall, t, instructions);
        hall.start(t);
    }

    /** A hall in which only thread 0 has a program, started, and whole turns. */
    static ThreadHall alone(int[]... instructions) {
        ThreadHall hall = new ThreadHall();
        hall.slice(20);
        loadAndStart(hall, 0, instructions);
        return hall;
    }

    /** 0 has lock 0 and is READY for ever, 1 is LOCKING it, 2 WAITING, 3 JOINING 0, and 4 is NEW. */
    static ThreadHall everyKind() {
        ThreadHall hall = new ThreadHall();
        loadAndStart(hall, 0, op(LOCK, 0), op(PASS), op(GO, 1));
        loadAndStart(hall, 1, op(LOCK, 0));
        loadAndStart(hall, 2, op(LOCK, 1), op(WAIT, 0, 1));
        loadAndStart(hall, 3, op(JOIN, 0, 0));
        hall.run(4);
        return hall;
    }

    /** What lies just outside 0 .. values - 1, and as far outside as can be. */
    static int[] outside(int values) {
        return new int[] {-1, values, Integer.MIN_VALUE, Integer.MAX_VALUE};
    }

    /** All that the calls tell of a hall; asking for it takes up to 130 of its 512 calls. */
    static int[] told(ThreadHall hall) {
        int[] all = new int[130];
        int size = 0;
        for (int t = 0; t < 5; t++) {
            for (int what = 0; what < 10; what++) {
                all[size++] = hall.look(t, what);
            }
            for (int s = 0; s < 4; s++) {
                all[size++] = hall.special(t, s);
            }
        }
        for (int k = 0; k < 12; k++) {
            all[size++] = hall.lock(k / 4, k % 4);
        }
        for (int what = 0; what < 8; what++) {
            all[size++] = hall.count(what);
        }
        for (int k = 0; k < 40 && k < hall.count(SAIDS); k++) {
            all[size++] = hall.said(k);
        }
        return all;
    }

    void dueSame(String what, int[] before, int[] after) {
        tally(Arrays.equals(before, after), what + " changed " + Arrays.toString(before) + " to "
            + Arrays.toString(after));
    }

    void due(String what, int want, int got) {
        tally(want == got, what + " answered " + got + ", due is " + want);
    }

    void dueSaid(String what, ThreadHall hall, int... want) {
        due(what + ": how many are said", want.length, hall.count(SAIDS));
        for (int k = 0; k < want.length && k < hall.count(SAIDS); k++) {
            due(what + ": said " + k, want[k], hall.said(k));
        }
    }

    void dueThrow(String what, Class<? extends RuntimeException> want, Runnable call) {
        Class<?> got = null;
        try {
            call.run();
        } catch (RuntimeException e) {
            got = e.getClass();
        }
        tally(want == got, what + " threw " + got + ", due is " + want);
    }

    void dueIllegalArgument(String what, Runnable call) {
        dueThrow(what, IllegalArgumentException.class, call);
    }

    void dueIllegalState(String what, Runnable call) {
        dueThrow(what, IllegalStateException.class, call);
    }

    void dueOutOfBounds(String what, Runnable call) {
        dueThrow(what, IndexOutOfBoundsException.class, call);
    }

    void tally(boolean right, String complaint) {
        if (right) {
            passed++;
        } else {
            failed++;
            System.out.println(running + complaint);
        }
    }

    void close() {
        System.out.println(getClass().getSimpleName() + ": " + passed + " passed, " + failed + " failed");
        if (failed > 0 || passed == 0) {
            System.exit(1);
        }
    }
}
