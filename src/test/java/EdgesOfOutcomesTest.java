/** The edges that ERRORS, INTERRUPTED, ENDING and A TURN name; above each test stand the words it is about. */
final class EdgesOfOutcomesTest extends Hall {
    public static void main(String[] args) {
        new EdgesOfOutcomesTest().runAll();
    }

    /** Thread 0 comes to the error of that number behind 14 INSTRUCTIONS; 16 is the place of the SAY of SPECIAL 3. */
    private static ThreadHall errorBehind(int number, int handler) {
        ThreadHall hall = new ThreadHall();
        hall.slice(20);
        hall.add(0, HANDLE, handler, 0);
        for (int k = 1; k < 14; k++) {
            boolean filling = number == 1 && k < 13 || number == 6 && k < 5;
            int[] one = filling ? op(number == 1 ? BIND : HOOK, 0, 0) : op(SET, 1, 1);
            load(hall, 0, number == 7 && k == 1 ? op(INTERRUPT, 0) : one);
        }
        int[][] wrong = {op(BIND, 0, 0), op(UNBIND, 0), op(UNLOCK, 0), op(START, 0), op(JOIN, 0, 0), op(HOOK, 0, 0),
            op(JOIN, 1, 0)};
        loadAndStart(hall, 0, wrong[number - 1], op(END, 1), op(SAY, 3), op(PASS), op(UNLOCK, 2));
        loadAndStart(hall, 1, op(GO, 0));
        return hall;
    }

    /** "ERRORS 1 to 6 and 7 ..: if it has a handler it goes on there, has none then, and SPECIAL 3 is the number" */
    void everyErrorWithAHandler() {
        for (int number = 1; number <= 7; number++) {
            ThreadHall hall = errorBehind(number, 16);
            due("in the same turn, error " + number, 17, hall.run(1));
            dueSaid("error " + number, hall, number);
            due("it has none then, error " + number, 24, hall.look(0, HANDLER));
            due("it is counted, error " + number, 1, hall.count(ERRORS));
            due("it has not ended, error " + number, 0, hall.count(ENDED));
            due("special 3 for all, error " + number, number, hall.special(4, 3));
            hall.run(2);
            due("so the next one ends it, error " + number, -3, hall.look(0, RESULT));
            due("special 3 as before, error " + number, number, hall.special(0, 3));
            due("both are counted, error " + number, 2, hall.count(ERRORS));
        }
    }

    /** "else it ends with the result -number" */
    void everyErrorWithoutAHandler() {
        for (int number = 1; number <= 7; number++) {
            ThreadHall hall = errorBehind(number, 24);
            due("up to error " + number, 15, hall.run(1));
            due("over, error " + number, ThreadHall.OVER, hall.look(0, STATE));
            due("result, error " + number, -number, hall.look(0, RESULT));
            due("special 3, error " + number, 0, hall.special(0, 3));
            due("it is counted, error " + number, 1, hall.count(ERRORS));
            due("it has ended, error " + number, 1, hall.count(ENDED));
            dueSaid("nothing behind error " + number, hall);
        }
    }

    /** "and SPECIAL 3 is the number": in the THREAD's latest binding, where it has one. */
    void errorNumberInABinding() {
        ThreadHall hall = alone(op(SET, 3, 8), op(BIND, 3, 9), op(HANDLE, 4), op(UNLOCK, 0), op(SAY, 3), op(UNBIND, 3),
            op(SAY, 3));
        hall.run(1);
        dueSaid("the binding, then the global value", hall, 3, 8);
    }

    /** "has none then": a handler that sets itself anew serves anew. */
    void handlerSetAnew() {
        ThreadHall hall = alone(op(HANDLE, 0), op(ADD, 0, 1), op(UNBIND, 1));
        due("round about", 20, hall.run(1));
        due("errors", 6, hall.count(ERRORS));
        due("not over", ThreadHall.READY, hall.look(0, STATE));
    }

    /** "7 (interrupted; the mark is gone)": by no other error. */
    void otherErrorsLeaveTheMark() {
        for (int number : new int[] {1, 2, 3, 4, 5, 6, 7}) {
            ThreadHall hall = errorBehind(number, 16);
            hall.interrupt(0);
            hall.run(1);
            due("error " + number, number, hall.special(0, 3));
            due("marked behind error " + number, number == 7 ? 0 : 1, hall.look(0, MARKED));
        }
    }

    /** "Behind the last INSTRUCTION it ends with the result 0." */
    void endsBehindTheLastInstruction() {
        ThreadHall empty = alone();
        due("empty: nothing is done", 0, empty.run(1));
        due("empty: over", ThreadHall.OVER, empty.look(0, STATE));
        due("empty: it had a turn", 1, empty.count(TURNS));
        ThreadHall one = alone(op(SET, 0, 5));
        due("one: it is done", 1, one.run(1));
        due("one: over in that turn", ThreadHall.OVER, one.look(0, STATE));
        due("one: result", 0, one.look(0, RESULT));
        ThreadHall again = alone(op(SET, 0, 5), op(END, 0));
        again.run(1);
        due("again: a result", 5, again.look(0, RESULT));
        again.clear(0);
        again.start(0);
        again.run(1);
        due("again: 0 in its stead", 0, again.look(0, RESULT));
    }

    /** "Behind the last INSTRUCTION it ends with the result 0.": also where that used up the SLICE. */
    void endsBehindAFullSlice() {
        ThreadHall hall = new ThreadHall();
        loadAndStart(hall, 0, op(ADD, 0, 1), op(ADD, 0, 1), op(ADD, 0, 1), op(ADD, 0, 1));
        due("four of four", 4, hall.run(1));
        due("no further one", 0, hall.run(40));
        due("over", ThreadHall.OVER, hall.look(0, STATE));
        due("result", 0, hall.look(0, RESULT));
        due("all four", 4, hall.special(0, 0));
    }

    /** "p behind it is there, too." */
    void placesBehindTheLastInstruction() {
        for (int p = 3; p <= 24; p++) {
            ThreadHall go = alone(op(GO, p), op(SAY, 0), op(SAY, 0));
            due("go " + p, 1, go.run(40));
            due("go " + p + ": over", ThreadHall.OVER, go.look(0, STATE));
            due("go " + p + ": result", 0, go.look(0, RESULT));
            ThreadHall ifZero = alone(op(IFZERO, 0, p), op(SAY, 0), op(SAY, 0));
            due("ifzero " + p, 1, ifZero.run(40));
            due("ifzero " + p + ": over", ThreadHall.OVER, ifZero.look(0, STATE));
        }
        for (int p = 3; p < 24; p++) {
            ThreadHall handled = alone(op(HANDLE, p), op(UNLOCK, 0), op(SAY, 0));
            due("handle " + p, 2, handled.run(40));
            due("handle " + p + ": result", 0, handled.look(0, RESULT));
            due("handle " + p + ": special 3", 3, handled.special(0, 3));
            due("handle " + p + ": one error", 1, handled.count(ERRORS));
        }
    }

    /** "INTERRUPTED while WAITING: it is out of the row": the first, the last or one between. */
    void outOfTheRowAnywhere() {
        for (int out = 0; out < 3; out++) {
            ThreadHall hall = new ThreadHall();
            for (int t = 0; t < 3; t++) {
                loadAndStart(hall, t, op(LOCK, 0), op(WAIT, 1, 0), op(BIND, 0, t), op(SAY, 0));
            }
            hall.run(3);
            hall.interrupt(out);
            due(out + " is out", 2, hall.lock(1, CONDITION_ROW));
            hall.run(1);
            due(out + " ends", -7, hall.look(out, RESULT));
            loadAndStart(hall, 4, op(TELL, 1), op(PASS), op(TELL, 1));
            hall.run(40);
            dueSaid("without " + out, hall, out == 0 ? 1 : 0, out == 2 ? 1 : 2);
        }
    }

    /** "goes for m as by LOCK, and when it has it (as often as before) that is thrown" */
    void interruptedOneGoesForItsLock() {
        ThreadHall hall = alone(op(LOCK, 1), op(LOCK, 1), op(LOCK, 1), op(HANDLE, 6), op(WAIT, 0, 1), op(SAY, 0),
            op(SAY, 3), op(PASS), op(PASS));
        loadAndStart(hall, 1, op(LOCK, 1), op(PASS), op(PASS), op(UNLOCK, 1), op(PASS), op(PASS));
        loadAndStart(hall, 2, op(LOCK, 1), op(PASS), op(UNLOCK, 1));
        hall.run(3);
        due("interrupt", 1, hall.interrupt(0));
        due("behind 2", 2, hall.lock(1, LOCK_ROW));
        due("locking", ThreadHall.LOCKING, hall.look(0, STATE));
        due("interrupted again, it is marked", 1, hall.interrupt(0));
        due("still in the row once", 2, hall.lock(1, LOCK_ROW));
        hall.run(2);
        due("2 has it first", 2, hall.lock(1, OWNER));
        due("not thrown yet", 0, hall.count(ERRORS));
        hall.run(3);
        due("as often as before", 3, hall.lock(1, OFTEN));
        due("it has it", 0, hall.lock(1, OWNER));
        hall.run(1);
        dueSaid("thrown", hall, 7);
        due("it keeps it", 3, hall.lock(1, OFTEN));
        due("once", 1, hall.count(ERRORS));
    }

    /** "when it has it .. that is thrown": without a handler it ends, and the LOCK goes on to the next. */
    void interruptedOneEndsAndGivesItsLockOn() {
        ThreadHall hall = alone(op(LOCK, 1), op(LOCK, 1), op(WAIT, 0, 1));
        hall.run(1);
        hall.interrupt(0);
        due("free, so it has it", 2, hall.lock(1, OFTEN));
        loadAndStart(hall, 1, op(LOCK, 1), op(PASS), op(PASS));
        due("its turn comes behind that of 1", 1, hall.run(1));
        due("1 is locking", ThreadHall.LOCKING, hall.look(1, STATE));
        due("thrown, and nothing else", 0, hall.run(1));
        due("over", -7, hall.look(0, RESULT));
        due("on to 1", 1, hall.lock(1, OWNER));
        due("once", 1, hall.lock(1, OFTEN));
    }

    /** "While JOINING: thrown when its next TURN begins." */
    void interruptedWhileJoining() {
        ThreadHall hall = alone(op(HANDLE, 2), op(JOIN, 1, 0), op(SAY, 0), op(SAY, 3), op(PASS));
        loadAndStart(hall, 1, op(PASS), op(SET, 1, 9), op(END, 1));
        hall.run(2);
        due("interrupt", 1, hall.interrupt(0));
        due("ready", ThreadHall.READY, hall.look(0, STATE));
        due("joins no more", 0, hall.look(1, JOINERS));
        due("not thrown yet", 0, hall.count(ERRORS));
        due("place as before", 2, hall.look(0, PLACE));
        due("no instruction for it", 3, hall.run(1));
        dueSaid("no result, but the number", hall, 0, 7);
    }

    /** "thrown when its next TURN begins": also where the one that it JOINED is OVER before that. */
    void joinedOneIsOverBeforeTheThrow() {
        ThreadHall hall = new ThreadHall();
        loadAndStart(hall, 1, op(JOIN, 0, 2));
        loadAndStart(hall, 0, op(PASS), op(SET, 1, 9), op(END, 1));
        hall.run(2);
        hall.interrupt(1);
        loadAndStart(hall, 2, op(PASS));
        hall.run(2);
        due("0 is over", 9, hall.look(0, RESULT));
        due("no result for 1", 0, hall.special(1, 2));
        due("not thrown yet", 0, hall.count(ERRORS));
        hall.run(1);
        due("thrown all the same", -7, hall.look(1, RESULT));
        due("no result for it at all", 0, hall.special(1, 2));
    }

    /** "ENDING: its hooks are done (in its bindings), then its bindings, its handler and its mark are gone" */
    void endingWithAllOrNothing() {
        ThreadHall all = alone(op(BIND, 0, 5), op(HOOK, 0, 1), op(HOOK, 1, 2), op(HANDLE, 0), op(INTERRUPT, 0),
            op(PASS));
        all.run(1);
        all.run(1);
        due("hook in a binding that is gone", 0, all.special(0, 0));
        due("hook of the global value", 2, all.special(0, 1));
        due("bindings", 0, all.look(0, BINDINGS));
        due("handler", 24, all.look(0, HANDLER));
        due("mark", 0, all.look(0, MARKED));
        ThreadHall nothing = new ThreadHall();
        nothing.start(4);
        nothing.run(40);
        int[] due = {ThreadHall.OVER, 0, 0, 0, 0, 0, 24, 0, 1, 0};
        for (int what = 0; what < due.length; what++) {
            due("nothing: look " + what, due[what], nothing.look(4, what));
        }
    }

    /** "each LOCK that it has goes to the first of its row, one by one" */
    void endingGivesEachLockOn() {
        ThreadHall hall = alone(op(LOCK, 0), op(LOCK, 1), op(LOCK, 1), op(LOCK, 2), op(PASS), op(UNBIND, 0));
        loadAndStart(hall, 1, op(LOCK, 0), op(PASS), op(PASS));
        loadAndStart(hall, 2, op(LOCK, 1), op(PASS), op(PASS));
        loadAndStart(hall, 3, op(LOCK, 1), op(PASS), op(PASS));
        hall.run(5);
        due("over", ThreadHall.OVER, hall.look(0, STATE));
        int[] owners = {1, 2, -1};
        int[] often = {1, 1, 0};
        int[] rows = {0, 1, 0};
        for (int m = 0; m < 3; m++) {
            due("who has " + m, owners[m], hall.lock(m, OWNER));
            due("how often " + m, often[m], hall.lock(m, OFTEN));
            due("the row of " + m, rows[m], hall.lock(m, LOCK_ROW));
        }
        due("the first of the row is ready", ThreadHall.READY, hall.look(2, STATE));
        due("the second is not", ThreadHall.LOCKING, hall.look(3, STATE));
    }

    /** "A LOCK that is had no more goes to the first of its row, .. (and has it as often as it goes for)." */
    void lockGoesOnAsOftenAsWanted() {
        ThreadHall hall = alone(op(LOCK, 0), op(LOCK, 0), op(LOCK, 0), op(WAIT, 0, 0), op(WAIT, 0, 0));
        loadAndStart(hall, 1, op(LOCK, 0), op(LOCK, 0), op(TELL, 0), op(PASS), op(UNLOCK, 0), op(PASS), op(UNLOCK, 0),
            op(LOCK, 0), op(PASS), op(PASS));
        hall.run(3);
        due("once less, but had", 1, hall.lock(0, OWNER));
        due("locking", ThreadHall.LOCKING, hall.look(0, STATE));
        hall.run(1);
        due("by UNLOCK to the one that was told", 0, hall.lock(0, OWNER));
        due("three times", 3, hall.lock(0, OFTEN));
        due("ready", ThreadHall.READY, hall.look(0, STATE));
        due("the other wants it again", ThreadHall.LOCKING, hall.look(1, STATE));
        hall.run(1);
        due("by WAIT to the first of the row", 1, hall.lock(0, OWNER));
        due("once", 1, hall.lock(0, OFTEN));
    }

    /** "those that JOIN it go on (READY), in the order in which they began that; it is OVER" */
    void endingLetsJoinersGoOn() {
        ThreadHall hall = new ThreadHall();
        for (int t = 1; t < 4; t++) {
            loadAndStart(hall, t, op(BIND, 1, t), op(JOIN, 0, 0), op(SAY, 1));
        }
        loadAndStart(hall, 0, op(PASS), op(UNLOCK, 0));
        loadAndStart(hall, 4, op(JOIN, 1, 0), op(SAY, 1));
        hall.run(5);
        due("those of 0", 3, hall.look(0, JOINERS));
        due("that of 1", 1, hall.look(1, JOINERS));
        hall.run(1);
        due("those of 0 are ready", 3, hall.count(READIES));
        due("that of 1 is not", ThreadHall.JOINING, hall.look(4, STATE));
        due("the result of an error, too", -3, hall.special(1, 0));
        hall.run(40);
        dueSaid("all went on", hall, 1, 2, 3, 0);
    }

    /** "the READY THREAD that comes next behind the last one that had a TURN (round about; first 0)" */
    void turnsRoundAbout() {
        ThreadHall hall = new ThreadHall();
        for (int t : new int[] {4, 3, 0}) {
            loadAndStart(hall, t, op(PASS), op(GO, 0));
        }
        for (int last : new int[] {0, 3, 4, 0, 3, 4, 0}) {
            hall.run(1);
            due("round about", last, hall.count(LAST));
        }
        ThreadHall lone = new ThreadHall();
        loadAndStart(lone, 4, op(PASS), op(GO, 0));
        for (int k = 0; k < 3; k++) {
            lone.run(1);
            due("the only one, again", 4, lone.count(LAST));
        }
    }

    /** "does up to SLICE INSTRUCTIONS (at first 4), as long as it is READY" */
    void aTurnOfEverySlice() {
        ThreadHall first = new ThreadHall();
        loadAndStart(first, 0, op(GO, 0));
        due("at first", 4, first.run(1));
        for (int n = 1; n <= 20; n++) {
            first.slice(n);
            due("a slice of " + n, n, first.run(1));
        }
        int[][] stops = {op(LOCK, 0), op(WAIT, 0, 1), op(JOIN, 1, 0), op(END, 0), op(PASS)};
        for (int[] stop : stops) {
            ThreadHall hall = new ThreadHall();
            loadAndStart(hall, 1, op(LOCK, 0), op(PASS), op(GO, 1));
            hall.run(1);
            loadAndStart(hall, 0, op(LOCK, 1), stop, op(SAY, 0));
            due("up to " + stop[0], 2, hall.run(1));
            dueSaid("nothing behind " + stop[0], hall);
        }
    }
}
