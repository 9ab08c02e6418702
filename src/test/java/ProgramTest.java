/** Promises 2 and 3: add and clear. */
final class ProgramTest extends Hall {
    public static void main(String[] args) {
        new ProgramTest().runAll();
    }

    void addCounts() {
        ThreadHall hall = new ThreadHall();
        due("first add", 1, hall.add(2, SET, 0, 1));
        due("second add", 2, hall.add(2, SET, 0, 1));
        due("add to another", 1, hall.add(3, SET, 0, 1));
        due("third add", 3, hall.add(2, PASS, 0, 0));
    }

    void refusedChangesNothing() {
        ThreadHall hall = new ThreadHall();
        hall.add(0, SAY, 1, 0);
        dueIllegalArgument("refused", () -> hall.add(0, SAY, 4, 0));
        due("the next one is the second", 2, hall.add(0, SAY, 1, 0));
    }

    void addBehindAnOldProgram() {
        ThreadHall hall = alone(op(ADD, 0, 1));
        hall.run(1);
        due("add when over", 2, hall.add(0, ADD, 0, 10));
        due("still over", ThreadHall.OVER, hall.look(0, STATE));
        hall.start(0);
        due("both are done", 2, hall.run(1));
        due("both had their effect", 12, hall.special(0, 0));
    }

    void clearCounts() {
        ThreadHall hall = new ThreadHall();
        load(hall, 1, op(ADD, 0, 1), op(ADD, 0, 1), op(ADD, 0, 1));
        load(hall, 2, op(ADD, 0, 1));
        due("clear", 3, hall.clear(1));
        due("clear again", 0, hall.clear(1));
        due("add after clear", 1, hall.add(1, ADD, 1, 7));
        hall.start(1);
        due("only the new one is done", 1, hall.run(40));
        due("the new one's effect", 7, hall.special(1, 1));
        due("no old one's effect", 0, hall.special(1, 0));
        due("clear when over", 1, hall.clear(1));
        due("another one's program stays", 1, hall.clear(2));
    }

    void clearLeavesTheRest() {
        ThreadHall hall = alone(op(SET, 0, 4), op(END, 0));
        hall.run(1);
        hall.clear(0);
        due("result after clear", 4, hall.look(0, RESULT));
        due("state after clear", ThreadHall.OVER, hall.look(0, STATE));
        due("starts after clear", 1, hall.look(0, STARTS));
        due("done after clear", 2, hall.look(0, DONE));
    }
}
