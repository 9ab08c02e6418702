/** Promise 11 and the instructions LOCK, UNLOCK and TRY. */
final class LockTest extends Hall {
    public static void main(String[] args) {
        new LockTest().runAll();
    }

    void lockAgain() {
        ThreadHall hall = alone(op(LOCK, 1), op(LOCK, 1), op(LOCK, 1), op(PASS), op(UNLOCK, 1), op(UNLOCK, 1),
            op(PASS), op(UNLOCK, 1), op(PASS), op(PASS));
        hall.run(1);
        due("owner", 0, hall.lock(1, OWNER));
        due("often", 3, hall.lock(1, OFTEN));
        hall.run(1);
        due("owner then", 0, hall.lock(1, OWNER));
        due("often then", 1, hall.lock(1, OFTEN));
        hall.run(1);
        due("owner at last", -1, hall.lock(1, OWNER));
        due("often at last", 0, hall.lock(1, OFTEN));
    }

    void goesToTheFirstOfTheRow() {
        ThreadHall hall = new ThreadHall();
        loadAndStart(hall, 3, op(LOCK, 0), op(PASS), op(UNLOCK, 0), op(PASS), op(GO, 3));
        hall.run(1);
        loadAndStart(hall, 1, op(LOCK, 0), op(PASS), op(GO, 1));
        hall.run(1);
        due("1 is locking", ThreadHall.LOCKING, hall.look(1, STATE));
        due("row", 1, hall.lock(0, LOCK_ROW));
        loadAndStart(hall, 0, op(LOCK, 0), op(SAY, 0));
        due("3 unlocks, 0 comes too late", 3, hall.run(2));
        due("1 has it", 1, hall.lock(0, OWNER));
        due("once", 1, hall.lock(0, OFTEN));
        due("1 is ready", ThreadHall.READY, hall.look(1, STATE));
        due("0 is locking", ThreadHall.LOCKING, hall.look(0, STATE));
        due("row then", 1, hall.lock(0, LOCK_ROW));
    }

    void firstComeFirstServed() {
        ThreadHall hall = new ThreadHall();
        loadAndStart(hall, 2, op(LOCK, 0), op(PASS), op(UNLOCK, 0));
        hall.run(1);
        for (int t : new int[] {4, 1, 0, 3}) {
            loadAndStart(hall, t, op(LOCK, 0), op(BIND, 0, t), op(SAY, 0), op(UNLOCK, 0));
        }
        due("3, 4, 0 and 1 come in their turns", 4, hall.run(4));
        due("all in the row", 4, hall.lock(0, LOCK_ROW));
        due("alive", 5, hall.count(ALIVE));
        due("ready", 1, hall.count(READIES));
        hall.run(40);
        dueSaid("in the order of the row", hall, 3, 4, 0, 1);
        due("had by none", -1, hall.lock(0, OWNER));
    }

    void tryLock() {
        ThreadHall hall = alone(op(SET, 1, 5), op(TRY, 0, 1), op(SAY, 1), op(TRY, 0, 2), op(SAY, 2), op(PASS),
            op(UNLOCK, 0), op(UNLOCK, 0), op(PASS));
        loadAndStart(hall, 1, op(SET, 0, 7), op(TRY, 0, 0), op(SAY, 0), op(PASS), op(TRY, 0, 0), op(SAY, 0),
            op(PASS));
        hall.run(1);
        dueSaid("free, then its own", hall, 1, 1);
        due("often", 2, hall.lock(0, OFTEN));
        hall.run(1);
        dueSaid("another's", hall, 1, 1, 0);
        due("it does not block", ThreadHall.READY, hall.look(1, STATE));
        due("no row", 0, hall.lock(0, LOCK_ROW));
        due("as before", 2, hall.lock(0, OFTEN));
        hall.run(2);
        dueSaid("free again", hall, 1, 1, 0, 1);
        due("owner", 1, hall.lock(0, OWNER));
        due("once", 1, hall.lock(0, OFTEN));
    }

    void tryIntoABinding() {
        ThreadHall hall = alone(op(BIND, 1, 5), op(TRY, 2, 1), op(SAY, 1), op(UNBIND, 1), op(SAY, 1));
        hall.run(1);
        dueSaid("in the binding", hall, 1, 0);
    }

    void locksAreApart() {
        ThreadHall hall = new ThreadHall();
        for (int t = 0; t < 3; t++) {
            loadAndStart(hall, t, op(LOCK, t), op(LOCK, t), op(PASS));
        }
        hall.run(3);
        for (int m = 0; m < 3; m++) {
            due("owner of " + m, m, hall.lock(m, OWNER));
            due("often of " + m, 2, hall.lock(m, OFTEN));
            due("row of " + m, 0, hall.lock(m, LOCK_ROW));
        }
    }

    void endingOfOneThatHadItOften() {
        ThreadHall hall = alone(op(LOCK, 0), op(LOCK, 0), op(PASS), op(UNBIND, 0));
        loadAndStart(hall, 1, op(LOCK, 0), op(PASS), op(PASS));
        hall.run(3);
        due("ended by an error", -2, hall.look(0, RESULT));
        due("owner", 1, hall.lock(0, OWNER));
        due("once", 1, hall.lock(0, OFTEN));
    }
}
