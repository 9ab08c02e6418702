/** Promises 5 and 7: run and slice; who has a turn, and how long. */
final class TurnTest extends Hall {
    public static void main(String[] args) {
        new TurnTest().runAll();
    }

    private static ThreadHall threeThatSay() {
        ThreadHall hall = new ThreadHall();
        for (int t = 4; t >= 0; t -= 2) {
            loadAndStart(hall, t, op(BIND, 0, t), op(SAY, 0), op(PASS), op(GO, 1));
        }
        return hall;
    }

    void turnsGoRoundAbout() {
        ThreadHall hall = threeThatSay();
        due("no turn yet", -1, hall.count(LAST));
        due("first turn", 3, hall.run(1));
        due("the first is 0", 0, hall.count(LAST));
        due("second turn", 3, hall.run(1));
        due("then 2", 2, hall.count(LAST));
        due("five turns", 15, hall.run(5));
        dueSaid("round about", hall, 0, 2, 4, 0, 2, 4, 0);
        due("turns", 7, hall.count(TURNS));
        due("last", 0, hall.count(LAST));
    }

    void aTurnIsASlice() {
        ThreadHall hall = new ThreadHall();
        loadAndStart(hall, 0, op(ADD, 0, 1), op(GO, 0));
        due("slice at first", 4, hall.run(1));
        due("place in between", 0, hall.look(0, PLACE));
        due("was 4", 4, hall.slice(1));
        due("slice 1", 1, hall.run(1));
        due("place after one", 1, hall.look(0, PLACE));
        due("was 1", 1, hall.slice(20));
        due("slice 20", 40, hall.run(2));
        due("was 20", 20, hall.slice(20));
        due("done", 45, hall.look(0, DONE));
        due("all done", 45, hall.count(INSTRUCTIONS));
    }

    void sliceFromTheNextTurnOn() {
        ThreadHall hall = new ThreadHall();
        loadAndStart(hall, 0, op(GO, 0));
        loadAndStart(hall, 1, op(GO, 0));
        due("two turns of 4", 8, hall.run(2));
        hall.slice(7);
        due("two turns of 7", 14, hall.run(2));
        due("each had 11", 11, hall.look(1, DONE));
    }

    void passEndsATurn() {
        ThreadHall hall = alone(op(PASS), op(ADD, 0, 1), op(PASS), op(ADD, 0, 1));
        due("pass is an instruction", 1, hall.run(1));
        due("place behind pass", 1, hall.look(0, PLACE));
        due("still ready", ThreadHall.READY, hall.look(0, STATE));
        due("up to the next pass", 2, hall.run(1));
        due("the rest", 1, hall.run(40));
        due("turns", 3, hall.count(TURNS));
    }

    void blockingEndsATurn() {
        ThreadHall hall = alone(op(LOCK, 0), op(PASS), op(UNLOCK, 0));
        loadAndStart(hall, 1, op(ADD, 0, 1), op(LOCK, 0), op(ADD, 0, 1));
        due("both", 4, hall.run(2));
        due("it is locking", ThreadHall.LOCKING, hall.look(1, STATE));
        due("place behind the lock", 2, hall.look(1, PLACE));
        due("what it did", 1, hall.special(1, 0));
    }

    void endOfTheProgram() {
        ThreadHall hall = alone(op(SET, 0, 9), op(ADD, 0, 1));
        due("both, then it ends", 2, hall.run(1));
        due("over", ThreadHall.OVER, hall.look(0, STATE));
        due("result 0", 0, hall.look(0, RESULT));
        due("ended", 1, hall.count(ENDED));
        due("one turn", 1, hall.count(TURNS));
    }

    /** The end is no instruction, but it is come to only where a turn still goes on. */
    void endBehindAFullSlice() {
        ThreadHall hall = new ThreadHall();
        hall.slice(2);
        loadAndStart(hall, 0, op(ADD, 0, 1), op(ADD, 0, 1));
        due("a full slice", 2, hall.run(1));
        due("not over yet", ThreadHall.READY, hall.look(0, STATE));
        due("its place is behind", 2, hall.look(0, PLACE));
        due("a turn with no instruction", 0, hall.run(40));
        due("over", ThreadHall.OVER, hall.look(0, STATE));
        due("that was a turn", 2, hall.count(TURNS));
    }

    void jumps() {
        ThreadHall hall = alone(op(GO, 2), op(SAY, 0), op(IFZERO, 1, 4), op(SAY, 2), op(ADD, 1, 1),
            op(IFZERO, 1, 1), op(SAY, 1));
        due("jumped", 5, hall.run(1));
        dueSaid("over what was jumped", hall, 1);
    }

    void startedOneHasItsTurnInOrder() {
        ThreadHall hall = new ThreadHall();
        loadAndStart(hall, 2, op(START, 1), op(START, 3), op(PASS), op(SET, 0, 2), op(SAY, 0));
        load(hall, 1, op(SET, 0, 1), op(SAY, 0));
        load(hall, 3, op(SET, 0, 3), op(SAY, 0));
        hall.run(40);
        dueSaid("behind the last one", hall, 3, 1, 2);
    }

    void runEndsWhereNoneIsReady() {
        ThreadHall hall = alone(op(LOCK, 0), op(WAIT, 0, 0));
        due("until it waits", 2, hall.run(40));
        due("turns", 1, hall.count(TURNS));
        due("none is ready", 0, hall.run(1));
        due("no more turns", 1, hall.count(TURNS));
        due("last", 0, hall.count(LAST));
    }
}
