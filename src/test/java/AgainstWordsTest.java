import java.util.function.IntSupplier;

/** Made-up runs of right and wrong calls, each answer held against that of the words (see Words). */
final class AgainstWordsTest extends Hall {
    private static final int RUNS = 6000;
    // With those of sameAll the calls stay below 512, beyond which the document promises nothing.
    private static final int CALLS = 250;
    private static final int HALF = 125;
    // Far from what a call could answer, so that a refusal is never taken for an answer.
    private static final long REFUSED = 1L << 40;

    private long state;

    public static void main(String[] args) {
        AgainstWordsTest test = new AgainstWordsTest();
        for (int run = 0; run < RUNS; run++) {
            test.compare(run);
        }
        test.close();
    }

    // A generator of its own, so that the runs are the same on every machine.
    private int below(int bound) {
        state = state * 6364136223846793005L + 1442695040888963407L;
        return (int) ((state >>> 33) % bound);
    }

    private void compare(int run) {
        state = run * 104729L + 3;
        ThreadHall hall = new ThreadHall();
        Words words = new Words();
        int most = 1 + below(24);
        for (int t = 0; t < 5; t++) {
            writeProgram(hall, words, t, below(most + 1), run % 3 == 0);
        }
        for (int k = 5 * most; k < CALLS; k++) {
            // The first wrong answer tells the fault; what follows it would only repeat it.
            if (!same(run, k, hall, words, below(20))) {
                return;
            }
            if (k == HALF && !sameAll(run, k, hall, words)) {
                return;
            }
        }
        sameAll(run, CALLS, hall, words);
    }

    /** Narrow programs keep to one lock and one condition, so that the threads meet more often. */
    private void writeProgram(ThreadHall hall, Words words, int t, int size, boolean narrow) {
        for (int k = 0; k < size; k++) {
            int op = below(21);
            int a = narrow && op >= LOCK && op <= TELLALL ? 0 : below(op == GO || op == HANDLE ? size + 2 : 4);
            int b = op == IFZERO ? below(size + 2) : op == WAIT && narrow ? 0 : below(4);
            int first = a;
            int second = b;
            same("add " + t + ", " + op + ", " + a + ", " + b, () -> words.add(t, op, first, second),
                () -> hall.add(t, op, first, second));
        }
    }

    private boolean same(int run, int k, ThreadHall hall, Words words, int which) {
        int t = below(25) == 0 ? below(9) - 2 : below(5);
        int n = below(12) - 1;
        int v = below(7) == 0 ? below(1000000) * below(1000000) : below(27) - 1;
        int op = below(23) - 1;
        String call = "run " + run + " call " + k + " kind " + which + " of " + t + ", " + n + ", " + v;
        switch (which) {
            case 0: return same(call, () -> words.add(t, op, n, v), () -> hall.add(t, op, n, v));
            case 1: return same(call, () -> words.clear(t), () -> hall.clear(t));
            case 2: case 3: case 4: return same(call, () -> words.start(t), () -> hall.start(t));
            case 5: case 6: case 7: return same(call, () -> words.run(1 + n % 3), () -> hall.run(1 + n % 3));
            case 8: return same(call, () -> words.run(v), () -> hall.run(v));
            case 9: case 10: return same(call, () -> words.interrupt(t), () -> hall.interrupt(t));
            case 11: return same(call, () -> words.slice(v), () -> hall.slice(v));
            case 12: return same(call, () -> words.global(t, v), () -> hall.global(t, v));
            case 13: return same(call, () -> words.special(t, n), () -> hall.special(t, n));
            case 14: case 15: return same(call, () -> words.look(t, n), () -> hall.look(t, n));
            case 16: return same(call, () -> words.lock(t, n), () -> hall.lock(t, n));
            case 17: return same(call, () -> words.said(v), () -> hall.said(v));
            default: return same(call, () -> words.count(n), () -> hall.count(n));
        }
    }

    private boolean same(String call, IntSupplier due, IntSupplier got) {
        long want = answer(due);
        long is = answer(got);
        tally(want == is, call + " answered " + is + ", due is " + want);
        return want == is;
    }

    private static long answer(IntSupplier call) {
        try {
            return call.getAsInt();
        } catch (RuntimeException e) {
            return REFUSED + e.getClass().getName().hashCode();
        }
    }

    private boolean sameAll(int run, int k, ThreadHall hall, Words words) {
        String where = "run " + run + " behind call " + k + ": ";
        boolean same = true;
        for (int j = 0; j < 70; j++) {
            int t = j % 5;
            int what = j / 5;
            same &= what < 10
                ? same(where + "look " + t + ", " + what, () -> words.look(t, what), () -> hall.look(t, what))
                : same(where + "special " + t + ", " + (what - 10), () -> words.special(t, what - 10),
                    () -> hall.special(t, what - 10));
        }
        for (int j = 0; j < 12; j++) {
            int m = j / 4;
            int what = j % 4;
            same &= same(where + "lock " + m + ", " + what, () -> words.lock(m, what), () -> hall.lock(m, what));
        }
        for (int j = 0; j < 8; j++) {
            int what = j;
            same &= same(where + "count " + what, () -> words.count(what), () -> hall.count(what));
        }
        return same;
    }
}
