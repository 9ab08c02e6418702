/**
 * Long runs of made-up calls, right and wrong ones: nothing but the document's exceptions is thrown,
 * what the calls tell fits together, and the same calls always have the same answers.
 */
final class SteadyTest extends Hall {
    private static final int RUNS = 1000;
    // With those of fitsTogether the calls stay below 512, beyond which the document promises nothing.
    private static final int CALLS = 240;
    private static final int REFUSED = 0x5eed;

    private long state;

    public static void main(String[] args) {
        SteadyTest test = new SteadyTest();
        for (int run = 0; run < RUNS; run++) {
            test.tally(test.answers(run) == test.answers(run), "run " + run + " has other answers the second time");
        }
        test.close();
    }

    // A generator of its own, so that the runs are the same on every machine.
    private int below(int bound) {
        state = state * 6364136223846793005L + 1442695040888963407L;
        return (int) ((state >>> 33) % bound);
    }

    private long answers(int run) {
        state = run * 7919L + 1;
        ThreadHall hall = new ThreadHall();
        for (int k = 0; k < 60; k++) {
            call(hall, 0);
        }
        long all = 0;
        for (int k = 60; k < CALLS; k++) {
            all = all * 31 + call(hall, below(12));
            if (k % 32 == 0) {
                fitsTogether(run, hall);
            }
        }
        return all;
    }

    private int call(ThreadHall hall, int which) {
        try {
            return rightOrWrongCall(hall, which);
        } catch (IllegalArgumentException | IllegalStateException e) {
            return REFUSED;
        } catch (IndexOutOfBoundsException e) {
            boolean due = e.getClass() == IndexOutOfBoundsException.class && (which == 0 || which == 10);
            tally(due, "call " + which + " threw " + e);
            return REFUSED;
        }
    }

    private int rightOrWrongCall(ThreadHall hall, int which) {
        int t = below(20) == 0 ? below(9) - 2 : below(5);
        switch (which) {
            case 0: return hall.add(t, below(21), below(5), below(25) < 20 ? below(5) : below(27) - 1);
            case 1: return below(4) == 0 ? hall.clear(t) : hall.start(t);
            case 2: return hall.start(t);
            case 3: case 4: return hall.run(1 + below(41));
            case 5: return hall.interrupt(t);
            case 6: return hall.slice(below(22));
            case 7: return hall.global(t, below(4));
            case 8: return hall.special(t, below(5));
            case 9: return hall.look(t, below(11));
            case 10: return hall.said(below(42) - 1);
            default: return hall.lock(t, below(5));
        }
    }

    private void fitsTogether(int run, ThreadHall hall) {
        int alive = 0;
        int[] stand = new int[6];
        int joiners = 0;
        for (int t = 0; t < 5; t++) {
            int how = hall.look(t, STATE);
            stand[how]++;
            joiners += hall.look(t, JOINERS);
            alive += how == ThreadHall.NEW || how == ThreadHall.OVER ? 0 : 1;
            tally(hall.look(t, BINDINGS) <= 12 && hall.look(t, HOOKS) <= 4, "run " + run + ": too many");
        }
        due("run " + run + ": alive", alive, hall.count(ALIVE));
        due("run " + run + ": ready", stand[ThreadHall.READY], hall.count(READIES));
        due("run " + run + ": joining", stand[ThreadHall.JOINING], joiners);
        rowsFit(run, hall, stand);
    }

    private void rowsFit(int run, ThreadHall hall, int[] stand) {
        int locking = 0;
        int waiting = 0;
        for (int m = 0; m < 3; m++) {
            int owner = hall.lock(m, OWNER);
            locking += hall.lock(m, LOCK_ROW);
            waiting += hall.lock(m, CONDITION_ROW);
            tally((owner == -1) == (hall.lock(m, OFTEN) == 0), "run " + run + ": had by none, but so and so often");
            tally(owner != -1 || hall.lock(m, LOCK_ROW) == 0, "run " + run + ": a row for a lock that is free");
            boolean hadByOver = owner != -1 && hall.look(owner, STATE) == ThreadHall.OVER;
            tally(!hadByOver, "run " + run + ": had by one that is over");
        }
        due("run " + run + ": locking", stand[ThreadHall.LOCKING], locking);
        due("run " + run + ": waiting", stand[ThreadHall.WAITING], waiting);
    }
}
