/** Promise 4 and the instruction START. */
final class StartTest extends Hall {
    public static void main(String[] args) {
        new StartTest().runAll();
    }

    void startAnswers() {
        ThreadHall hall = new ThreadHall();
        load(hall, 0, op(PASS), op(LOCK, 0), op(WAIT, 0, 0));
        due("start new", 1, hall.start(0));
        due("start ready", 0, hall.start(0));
        hall.run(2);
        due("it is waiting", ThreadHall.WAITING, hall.look(0, STATE));
        due("start waiting", 0, hall.start(0));
        due("starts", 1, hall.look(0, STARTS));
    }

    void startDoesNoInstruction() {
        ThreadHall hall = new ThreadHall();
        due("start without a program", 1, hall.start(3));
        due("it is ready", ThreadHall.READY, hall.look(3, STATE));
        due("no turn yet", 0, hall.count(TURNS));
        due("run", 0, hall.run(40));
        due("it is over", ThreadHall.OVER, hall.look(3, STATE));
        due("it had a turn", 1, hall.count(TURNS));
    }

    void startAgain() {
        ThreadHall hall = alone(op(ADD, 0, 1), op(END, 0));
        hall.run(1);
        due("result", 1, hall.look(0, RESULT));
        due("place when over", 2, hall.look(0, PLACE));
        due("start over", 1, hall.start(0));
        due("result stays until it is over again", 1, hall.look(0, RESULT));
        due("place", 0, hall.look(0, PLACE));
        due("done", 0, hall.look(0, DONE));
        due("starts", 2, hall.look(0, STARTS));
        hall.run(1);
        due("second result", 2, hall.look(0, RESULT));
    }

    void startWithoutWhatWas() {
        ThreadHall hall = alone(op(IFZERO, 0, 5), op(SAY, 1), op(PASS), op(PASS), op(PASS), op(BIND, 1, 9),
            op(HANDLE, 24), op(HOOK, 2, 1), op(INTERRUPT, 0), op(SET, 0, 1), op(HANDLE, 3));
        hall.run(1);
        due("hook was done", 1, hall.special(0, 2));
        hall.start(0);
        due("bindings", 0, hall.look(0, BINDINGS));
        due("handler", 24, hall.look(0, HANDLER));
        due("hooks", 0, hall.look(0, HOOKS));
        due("mark", 0, hall.look(0, MARKED));
        hall.run(1);
        dueSaid("the global value", hall, 0);
        due("hook was not done again", 1, hall.special(0, 2));
    }

    void startByInstruction() {
        ThreadHall hall = alone(op(START, 2), op(SET, 0, 1));
        load(hall, 2, op(SAY, 0));
        due("one turn", 2, hall.run(1));
        due("the other is ready", ThreadHall.READY, hall.look(2, STATE));
        due("its starts", 1, hall.look(2, STARTS));
        due("its turn", 1, hall.run(1));
        dueSaid("by the started one", hall, 1);
        hall.start(0);
        hall.run(2);
        due("started when over", 2, hall.look(2, STARTS));
        dueSaid("by the one started again", hall, 1, 1);
    }
}
