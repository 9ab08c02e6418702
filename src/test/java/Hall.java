/** What the tests have in common: the names of the instructions, programs, and the tally of answers. */
abstract class Hall {
    static final int SET = 0, ADD = 1, MOVE = 2, BIND = 3, UNBIND = 4, LOCK = 5, UNLOCK = 6, TRY = 7;
    static final int WAIT = 8, TELL = 9, TELLALL = 10, START = 11, JOIN = 12, INTERRUPT = 13;
    static final int HANDLE = 14, HOOK = 15, GO = 16, IFZERO = 17, SAY = 18, END = 19, PASS = 20;

    static final int STATE = 0, PLACE = 1, RESULT = 2, BINDINGS = 3, HOOKS = 4, MARKED = 5;
    static final int HANDLER = 6, DONE = 7, STARTS = 8, JOINERS = 9;
    static final int OWNER = 0, OFTEN = 1, LOCK_ROW = 2, CONDITION_ROW = 3;
    static final int SAIDS = 0, INSTRUCTIONS = 1, TURNS = 2, ALIVE = 3, READIES = 4, ERRORS = 5;
    static final int LAST = 6, ENDED = 7;

    private int passed;
    private int failed;

    static int[] op(int op) {
        return new int[] {op, 0, 0};
    }

    static int[] op(int op, int a) {
        return new int[] {op, a, 0};
    }

    static int[] op(int op, int a, int b) {
        return new int[] {op, a, b};
    }

    static void load(ThreadHall hall, int t, int[]... instructions) {
        for (int[] one : instructions) {
            hall.add(t, one[0], one[1], one[2]);
        }
    }

    static void loadAndStart(ThreadHall hall, int t, int[]... instructions) {
        load(hall, t, instructions);
        hall.start(t);
    }

    /** A hall in which only thread 0 has a program, started, and whole turns. */
    static ThreadHall alone(int[]... instructions) {
        ThreadHall hall = new ThreadHall();
        hall.slice(20);
        loadAndStart(hall, 0, instructions);
        return hall;
    }

    void due(String what, int want, int got) {
        tally(want == got, what + " answered " + got + ", due is " + want);
    }

    void dueSaid(String what, ThreadHall hall, int... want) {
        due(what + ": how many are said", want.length, hall.count(SAIDS));
        for (int k = 0; k < want.length && k < hall.count(SAIDS); k++) {
            due(what + ": said " + k, want[k], hall.said(k));
        }
    }

    void dueThrow(String what, Class<? extends RuntimeException> want, Runnable call) {
        Class<?> got = null;
        try {
            call.run();
        } catch (RuntimeException e) {
            got = e.getClass();
        }
        tally(want == got, what + " threw " + got + ", due is " + want);
    }

    void dueIllegalArgument(String what, Runnable call) {
        dueThrow(what, IllegalArgumentException.class, call);
    }

    void dueIllegalState(String what, Runnable call) {
        dueThrow(what, IllegalStateException.class, call);
    }

    void dueOutOfBounds(String what, Runnable call) {
        dueThrow(what, IndexOutOfBoundsException.class, call);
    }

    void tally(boolean right, String complaint) {
        if (right) {
            passed++;
        } else {
            failed++;
            System.out.println(complaint);
        }
    }

    void close() {
        System.out.println(getClass().getSimpleName() + ": " + passed + " passed, " + failed + " failed");
        if (failed > 0) {
            System.exit(1);
        }
    }
}
