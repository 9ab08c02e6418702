/** Promise 6 and the instruction INTERRUPT. */
final class InterruptTest extends Hall {
    public static void main(String[] args) {
        new InterruptTest().runAll();
    }

    void answers() {
        ThreadHall hall = new ThreadHall();
        due("new", 0, hall.interrupt(0));
        due("new is not marked", 0, hall.look(0, MARKED));
        hall.start(0);
        due("ready", 1, hall.interrupt(0));
        due("marked", 1, hall.look(0, MARKED));
        due("marked again", 1, hall.interrupt(0));
        due("still ready", ThreadHall.READY, hall.look(0, STATE));
        hall.run(1);
        due("over", 0, hall.interrupt(0));
        due("over is not marked", 0, hall.look(0, MARKED));
    }

    void markIsLookedAtByWait() {
        ThreadHall hall = alone(op(LOCK, 0), op(HANDLE, 3), op(WAIT, 0, 0), op(SAY, 3), op(PASS), op(PASS));
        hall.interrupt(0);
        due("wait is counted", 5, hall.run(1));
        dueSaid("error 7", hall, 7);
        due("it still has the lock", 0, hall.lock(0, OWNER));
        due("no row", 0, hall.lock(0, CONDITION_ROW));
        due("the mark is gone", 0, hall.look(0, MARKED));
        due("errors", 1, hall.count(ERRORS));
    }

    void markIsLookedAtByJoin() {
        ThreadHall hall = alone(op(HANDLE, 2), op(JOIN, 1, 0), op(SAY, 3), op(JOIN, 1, 0));
        hall.start(1);
        hall.interrupt(0);
        hall.run(1);
        dueSaid("error 7", hall, 7);
        due("the next join is done", ThreadHall.JOINING, hall.look(0, STATE));
    }

    /** The mark is looked at where it would be WAITING or JOINING, so not where that does not come about. */
    void markIsKeptWhereItWouldNotWaitOrJoin() {
        ThreadHall noLock = marked(op(HANDLE, 1), op(WAIT, 0, 0));
        due("wait without the lock", 3, noLock.special(0, 3));
        due("wait without the lock: mark", 1, noLock.look(0, MARKED));
        ThreadHall itself = marked(op(HANDLE, 1), op(JOIN, 0, 0));
        due("join itself", 5, itself.special(0, 3));
        due("join itself: mark", 1, itself.look(0, MARKED));
        ThreadHall stillNew = marked(op(HANDLE, 1), op(JOIN, 2, 0));
        due("join a new one", 5, stillNew.special(0, 3));
        due("join a new one: mark", 1, stillNew.look(0, MARKED));
        ThreadHall over = marked(op(SET, 2, 5), op(JOIN, 1, 2));
        due("join one that is over", 0, over.special(0, 2));
        due("join one that is over: mark", 1, over.look(0, MARKED));
        due("no error", 0, over.count(ERRORS));
    }

    /** Thread 1 is over, and 0, marked, has done two instructions. */
    private static ThreadHall marked(int[] first, int[] second) {
        ThreadHall hall = new ThreadHall();
        hall.start(1);
        hall.run(1);
        hall.slice(2);
        loadAndStart(hall, 0, first, second, op(PASS));
        hall.interrupt(0);
        hall.run(1);
        return hall;
    }

    void markDoesNotStopOthers() {
        ThreadHall hall = alone(op(LOCK, 0), op(TRY, 1, 0), op(TELL, 0), op(TELLALL, 0), op(SAY, 0), op(PASS),
            op(PASS));
        hall.interrupt(0);
        due("all are done", 6, hall.run(1));
        due("still marked", 1, hall.look(0, MARKED));
        due("no error", 0, hall.count(ERRORS));
    }

    void markOfOneThatIsLocking() {
        ThreadHall hall = alone(op(LOCK, 0), op(PASS), op(UNLOCK, 0));
        loadAndStart(hall, 1, op(LOCK, 0), op(SAY, 0), op(WAIT, 0, 0));
        hall.run(2);
        due("interrupt", 1, hall.interrupt(1));
        due("it is locking as before", ThreadHall.LOCKING, hall.look(1, STATE));
        due("in the row as before", 1, hall.lock(0, LOCK_ROW));
        due("marked", 1, hall.look(1, MARKED));
        hall.run(40);
        dueSaid("it has the lock first", hall, 0);
        due("then it is thrown", -7, hall.look(1, RESULT));
    }

    void whileWaitingWithAFreeLock() {
        ThreadHall hall = alone(op(HANDLE, 6), op(LOCK, 0), op(LOCK, 0), op(WAIT, 0, 0), op(SAY, 0), op(PASS),
            op(SAY, 3), op(PASS), op(PASS));
        hall.run(1);
        due("interrupt", 1, hall.interrupt(0));
        due("ready", ThreadHall.READY, hall.look(0, STATE));
        due("out of the row", 0, hall.lock(0, CONDITION_ROW));
        due("it has the lock", 0, hall.lock(0, OWNER));
        due("as often as before", 2, hall.lock(0, OFTEN));
        due("not marked", 0, hall.look(0, MARKED));
        due("not thrown yet", 0, hall.count(ERRORS));
        due("place", 4, hall.look(0, PLACE));
        hall.run(1);
        dueSaid("thrown", hall, 7);
        due("errors", 1, hall.count(ERRORS));
        due("handler is gone", 24, hall.look(0, HANDLER));
        due("it still has the lock", 2, hall.lock(0, OFTEN));
    }

    void whileWaitingWithATakenLock() {
        ThreadHall hall = alone(op(LOCK, 0), op(LOCK, 0), op(HANDLE, 5), op(WAIT, 0, 0), op(SAY, 0), op(SAY, 3),
            op(PASS));
        loadAndStart(hall, 1, op(LOCK, 0), op(PASS), op(TELLALL, 0), op(PASS), op(UNLOCK, 0));
        hall.run(2);
        due("interrupt", 1, hall.interrupt(0));
        due("locking", ThreadHall.LOCKING, hall.look(0, STATE));
        due("row of the lock", 1, hall.lock(0, LOCK_ROW));
        due("row of the condition", 0, hall.lock(0, CONDITION_ROW));
        hall.run(1);
        due("no longer to be told", ThreadHall.LOCKING, hall.look(0, STATE));
        due("in the row once", 1, hall.lock(0, LOCK_ROW));
        hall.run(1);
        due("ready", ThreadHall.READY, hall.look(0, STATE));
        due("as often as before", 2, hall.lock(0, OFTEN));
        due("not thrown yet", 0, hall.count(ERRORS));
        hall.run(1);
        dueSaid("thrown", hall, 7);
    }

    void whileJoining() {
        ThreadHall hall = alone(op(JOIN, 1, 0), op(SAY, 0));
        loadAndStart(hall, 1, op(PASS), op(SET, 1, 3), op(END, 1));
        hall.run(2);
        due("interrupt", 1, hall.interrupt(0));
        due("ready", ThreadHall.READY, hall.look(0, STATE));
        due("joins no more", 0, hall.look(1, JOINERS));
        due("not marked", 0, hall.look(0, MARKED));
        due("not thrown yet", 0, hall.count(ERRORS));
        due("result not yet", 0, hall.look(0, RESULT));
        hall.run(1);
        due("thrown", -7, hall.look(0, RESULT));
        hall.run(40);
        due("no result in its special", 0, hall.special(0, 0));
    }

    /** The second one marks, as it neither waits nor joins then; the throw takes the mark along. */
    void twice() {
        ThreadHall hall = alone(op(HANDLE, 2), op(JOIN, 1, 0), op(JOIN, 1, 0));
        loadAndStart(hall, 1, op(PASS), op(GO, 0));
        hall.run(1);
        hall.interrupt(0);
        due("again", 1, hall.interrupt(0));
        due("marked", 1, hall.look(0, MARKED));
        hall.run(2);
        due("joins again", ThreadHall.JOINING, hall.look(0, STATE));
        due("the mark is gone", 0, hall.look(0, MARKED));
        due("one error", 1, hall.count(ERRORS));
    }

    void byInstruction() {
        ThreadHall hall = alone(op(PASS), op(INTERRUPT, 1), op(INTERRUPT, 2), op(INTERRUPT, 3), op(INTERRUPT, 4),
            op(PASS));
        loadAndStart(hall, 1, op(LOCK, 0), op(WAIT, 0, 0));
        loadAndStart(hall, 2, op(JOIN, 0, 0));
        hall.start(3);
        due("before", 4, hall.run(4));
        due("all are done", 5, hall.run(1));
        due("waiting one is ready", ThreadHall.READY, hall.look(1, STATE));
        due("joining one is ready", ThreadHall.READY, hall.look(2, STATE));
        due("one that is over stays so", ThreadHall.OVER, hall.look(3, STATE));
        due("one that is over is not marked", 0, hall.look(3, MARKED));
        due("a new one stays so", ThreadHall.NEW, hall.look(4, STATE));
        due("a new one is not marked", 0, hall.look(4, MARKED));
        due("no error of its own", 0, hall.count(ERRORS));
        hall.run(2);
        due("thrown in 1", -7, hall.look(1, RESULT));
        due("thrown in 2", -7, hall.look(2, RESULT));
    }

    void ofItself() {
        ThreadHall hall = alone(op(INTERRUPT, 0), op(LOCK, 0), op(PASS), op(WAIT, 0, 0));
        hall.run(1);
        due("marked", 1, hall.look(0, MARKED));
        hall.run(1);
        due("thrown", -7, hall.look(0, RESULT));
    }

    void throwIsNoInstruction() {
        ThreadHall hall = new ThreadHall();
        loadAndStart(hall, 0, op(HANDLE, 2), op(JOIN, 1, 0), op(ADD, 0, 1), op(GO, 2));
        loadAndStart(hall, 1, op(PASS), op(GO, 0));
        hall.run(2);
        hall.interrupt(0);
        due("a whole slice behind the throw", 4, hall.run(1));
        due("done", 6, hall.look(0, DONE));
        ThreadHall ending = alone(op(LOCK, 0), op(WAIT, 0, 0));
        ending.run(1);
        ending.interrupt(0);
        due("a turn that is only thrown in", 0, ending.run(1));
        due("it is a turn", 2, ending.count(TURNS));
        due("place", 2, ending.look(0, PLACE));
    }

    void markIsGoneAtTheEnd() {
        ThreadHall hall = alone(op(INTERRUPT, 0));
        hall.run(1);
        due("gone", 0, hall.look(0, MARKED));
        hall.clear(0);
        loadAndStart(hall, 0, op(LOCK, 0), op(WAIT, 0, 0));
        hall.run(1);
        due("it waits", ThreadHall.WAITING, hall.look(0, STATE));
    }
}
