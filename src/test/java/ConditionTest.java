/** The instructions WAIT, TELL and TELLALL. */
final class ConditionTest extends Hall {
    public static void main(String[] args) {
        new ConditionTest().runAll();
    }

    void waitGivesTheLockAway() {
        ThreadHall hall = new ThreadHall();
        loadAndStart(hall, 0, op(LOCK, 0), op(LOCK, 0), op(LOCK, 0), op(PASS), op(WAIT, 2, 0));
        loadAndStart(hall, 1, op(LOCK, 0), op(PASS), op(PASS));
        hall.run(2);
        due("three times", 3, hall.lock(0, OFTEN));
        due("1 is locking", ThreadHall.LOCKING, hall.look(1, STATE));
        due("0 waits", 1, hall.run(1));
        due("waiting", ThreadHall.WAITING, hall.look(0, STATE));
        due("row of 2", 1, hall.lock(2, CONDITION_ROW));
        due("row of 0", 0, hall.lock(0, CONDITION_ROW));
        due("1 has it", 1, hall.lock(0, OWNER));
        due("once", 1, hall.lock(0, OFTEN));
        due("1 is ready", ThreadHall.READY, hall.look(1, STATE));
    }

    /** Threads t of the row wait for condition 1, in its order; then 4 is to do what is given. */
    private static ThreadHall waiters(int[] row, int[]... rest) {
        ThreadHall hall = new ThreadHall();
        hall.slice(20);
        for (int t : row) {
            loadAndStart(hall, t, op(BIND, 0, t), op(LOCK, 0), op(WAIT, 1, 0), op(SAY, 0), op(UNLOCK, 0));
            hall.run(1);
        }
        loadAndStart(hall, 4, rest);
        return hall;
    }

    void tellTheFirst() {
        ThreadHall hall = waiters(new int[] {3, 0, 2}, op(TELL, 1), op(PASS), op(TELL, 1), op(PASS), op(TELL, 1));
        due("row", 3, hall.lock(1, CONDITION_ROW));
        hall.run(1);
        due("one is told", 2, hall.lock(1, CONDITION_ROW));
        due("it is 3", ThreadHall.READY, hall.look(3, STATE));
        due("3 has the lock", 3, hall.lock(0, OWNER));
        hall.run(40);
        dueSaid("in the order of the row", hall, 3, 0, 2);
    }

    void tellAllInOrder() {
        ThreadHall hall = waiters(new int[] {3, 0, 2}, op(TELLALL, 1));
        due("tellall is one", 1, hall.run(1));
        due("row of the condition", 0, hall.lock(1, CONDITION_ROW));
        due("row of the lock", 2, hall.lock(0, LOCK_ROW));
        due("the first has it", 3, hall.lock(0, OWNER));
        due("the first is ready", ThreadHall.READY, hall.look(3, STATE));
        due("the second is locking", ThreadHall.LOCKING, hall.look(0, STATE));
        due("the third is locking", ThreadHall.LOCKING, hall.look(2, STATE));
        hall.run(40);
        dueSaid("in the order of the row", hall, 3, 0, 2);
    }

    void toldWithALockThatIsFree() {
        ThreadHall hall = alone(op(LOCK, 2), op(LOCK, 2), op(WAIT, 0, 2), op(PASS), op(PASS));
        loadAndStart(hall, 1, op(TELL, 0));
        hall.run(2);
        due("ready", ThreadHall.READY, hall.look(0, STATE));
        due("it has it", 0, hall.lock(2, OWNER));
        due("as often as before", 2, hall.lock(2, OFTEN));
        due("place behind wait", 3, hall.look(0, PLACE));
        due("no instruction more", 3, hall.look(0, DONE));
    }

    void toldGoesBehindOthers() {
        ThreadHall hall = new ThreadHall();
        hall.slice(20);
        loadAndStart(hall, 0, op(LOCK, 0), op(LOCK, 0), op(WAIT, 0, 0), op(PASS), op(PASS));
        loadAndStart(hall, 1, op(LOCK, 0), op(PASS), op(TELL, 0), op(PASS), op(UNLOCK, 0));
        loadAndStart(hall, 2, op(LOCK, 0), op(PASS), op(UNLOCK, 0));
        hall.run(4);
        due("both are in the row", 2, hall.lock(0, LOCK_ROW));
        due("told, it is locking", ThreadHall.LOCKING, hall.look(0, STATE));
        hall.run(1);
        due("2 came first", 2, hall.lock(0, OWNER));
        due("once", 1, hall.lock(0, OFTEN));
        hall.run(2);
        due("then the one that was told", 0, hall.lock(0, OWNER));
        due("as often as before", 2, hall.lock(0, OFTEN));
        due("ready", ThreadHall.READY, hall.look(0, STATE));
    }

    void conditionsAreApart() {
        ThreadHall hall = waiters(new int[] {0}, op(TELL, 0), op(TELLALL, 2));
        hall.run(40);
        due("not told", ThreadHall.WAITING, hall.look(0, STATE));
    }

    void waitersOfSeveralLocks() {
        ThreadHall hall = new ThreadHall();
        for (int t = 0; t < 3; t++) {
            loadAndStart(hall, t, op(LOCK, t), op(WAIT, 0, t), op(PASS), op(PASS));
        }
        loadAndStart(hall, 3, op(TELLALL, 0));
        hall.run(4);
        for (int t = 0; t < 3; t++) {
            due(t + " is ready", ThreadHall.READY, hall.look(t, STATE));
            due(t + " has its own", t, hall.lock(t, OWNER));
        }
    }
}
