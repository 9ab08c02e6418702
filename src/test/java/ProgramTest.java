/** Promises 2 and 3: add and clear. */
final class ProgramTest extends Hall {
    private static final int ANY = 0;
    private static final int[] FIRST = {4, 4, 4, 4, 4, 3, 3, 3, 3, 3, 3, 5, 5, 5, 25, 4, 25, 4, 4, 4, ANY};
    private static final int[] SECOND = {ANY, ANY, 4, ANY, ANY, ANY, ANY, 4, 3, ANY, ANY, ANY, 4, ANY, ANY,
        ANY, ANY, 25, ANY, ANY, ANY};

    public static void main(String[] args) {
        ProgramTest test = new ProgramTest();
        test.addCounts();
        test.operandsInside();
        test.operandsOutside();
        test.wrongThreadsAndOps();
        test.fullProgram();
        test.aliveThreads();
        test.whichExceptionComesFirst();
        test.refusedChangesNothing();
        test.addBehindAnOldProgram();
        test.clearCounts();
        test.clearLeavesTheRest();
        test.close();
    }

    void addCounts() {
        ThreadHall hall = new ThreadHall();
        due("first add", 1, hall.add(2, SET, 0, 1));
        due("second add", 2, hall.add(2, SET, 0, 1));
        due("add to another", 1, hall.add(3, SET, 0, 1));
        due("third add", 3, hall.add(2, PASS, 0, 0));
    }

    void operandsInside() {
        for (int op = 0; op <= PASS; op++) {
            int lowA = FIRST[op] == ANY ? Integer.MIN_VALUE : 0;
            int highA = FIRST[op] == ANY ? Integer.MAX_VALUE : FIRST[op] - 1;
            int lowB = SECOND[op] == ANY ? Integer.MIN_VALUE : 0;
            int highB = SECOND[op] == ANY ? Integer.MAX_VALUE : SECOND[op] - 1;
            ThreadHall hall = new ThreadHall();
            due("op " + op + " with the lowest", 1, hall.add(0, op, lowA, lowB));
            due("op " + op + " with the highest", 2, hall.add(0, op, highA, highB));
        }
    }

    void operandsOutside() {
        ThreadHall hall = new ThreadHall();
        for (int op = 0; op <= PASS; op++) {
            int itself = op;
            if (FIRST[op] != ANY) {
                dueIllegalArgument("op " + op + " a too low", () -> hall.add(0, itself, -1, 0));
                dueIllegalArgument("op " + op + " a too high", () -> hall.add(0, itself, FIRST[itself], 0));
            }
            if (SECOND[op] != ANY) {
                dueIllegalArgument("op " + op + " b too low", () -> hall.add(0, itself, 0, -1));
                dueIllegalArgument("op " + op + " b too high", () -> hall.add(0, itself, 0, SECOND[itself]));
            }
        }
        due("nothing was added", 0, hall.clear(0));
    }

    void wrongThreadsAndOps() {
        ThreadHall hall = new ThreadHall();
        for (int wrong : new int[] {-1, 5, Integer.MIN_VALUE, Integer.MAX_VALUE}) {
            dueIllegalArgument("add to thread " + wrong, () -> hall.add(wrong, PASS, 0, 0));
            dueIllegalArgument("clear thread " + wrong, () -> hall.clear(wrong));
        }
        for (int wrong : new int[] {-1, 21, Integer.MIN_VALUE, Integer.MAX_VALUE}) {
            dueIllegalArgument("add op " + wrong, () -> hall.add(0, wrong, 0, 0));
        }
    }

    void fullProgram() {
        ThreadHall hall = new ThreadHall();
        for (int k = 1; k <= 24; k++) {
            due("add " + k, k, hall.add(4, ADD, 0, 1));
        }
        dueOutOfBounds("add 25", () -> hall.add(4, ADD, 0, 1));
        hall.start(4);
        due("24 instructions are done", 24, hall.run(40));
        due("24 instructions had their effect", 24, hall.special(4, 0));
        dueOutOfBounds("add 25 when over", () -> hall.add(4, ADD, 0, 1));
    }

    /** Thread 0 has lock 0 and stays; 1 is LOCKING, 2 WAITING, 3 JOINING. */
    private static ThreadHall allKinds() {
        ThreadHall hall = new ThreadHall();
        loadAndStart(hall, 2, op(LOCK, 1), op(WAIT, 0, 1));
        loadAndStart(hall, 0, op(LOCK, 0), op(PASS), op(GO, 1));
        loadAndStart(hall, 1, op(LOCK, 0));
        loadAndStart(hall, 3, op(JOIN, 0, 0));
        hall.run(4);
        return hall;
    }

    void aliveThreads() {
        ThreadHall hall = allKinds();
        for (int t = 0; t < 4; t++) {
            int itself = t;
            due("how " + t + " stands", t == 0 ? 1 : t + 1, hall.look(t, STATE));
            dueIllegalState("add to alive " + t, () -> hall.add(itself, PASS, 0, 0));
            dueIllegalState("clear alive " + t, () -> hall.clear(itself));
        }
        due("add to a new one beside them", 1, hall.add(4, PASS, 0, 0));
    }

    void whichExceptionComesFirst() {
        ThreadHall hall = new ThreadHall();
        for (int k = 0; k < 24; k++) {
            hall.add(0, PASS, 0, 0);
        }
        dueIllegalArgument("full and wrong op", () -> hall.add(0, 21, 0, 0));
        dueIllegalArgument("full and wrong operand", () -> hall.add(0, SET, 4, 0));
        hall.start(0);
        dueIllegalState("full and alive", () -> hall.add(0, PASS, 0, 0));
        dueIllegalArgument("alive and wrong op", () -> hall.add(0, 21, 0, 0));
        dueIllegalArgument("alive and wrong operand", () -> hall.add(0, MOVE, 0, 4));
    }

    void refusedChangesNothing() {
        ThreadHall hall = new ThreadHall();
        hall.add(0, SAY, 1, 0);
        dueIllegalArgument("refused", () -> hall.add(0, SAY, 4, 0));
        due("the next one is the second", 2, hall.add(0, SAY, 1, 0));
    }

    void addBehindAnOldProgram() {
        ThreadHall hall = alone(op(ADD, 0, 1));
        hall.run(1);
        due("add when over", 2, hall.add(0, ADD, 0, 10));
        due("still over", ThreadHall.OVER, hall.look(0, STATE));
        hall.start(0);
        due("both are done", 2, hall.run(1));
        due("both had their effect", 12, hall.special(0, 0));
    }

    void clearCounts() {
        ThreadHall hall = new ThreadHall();
        load(hall, 1, op(ADD, 0, 1), op(ADD, 0, 1), op(ADD, 0, 1));
        load(hall, 2, op(ADD, 0, 1));
        due("clear", 3, hall.clear(1));
        due("clear again", 0, hall.clear(1));
        due("add after clear", 1, hall.add(1, ADD, 1, 7));
        hall.start(1);
        due("only the new one is done", 1, hall.run(40));
        due("the new one's effect", 7, hall.special(1, 1));
        due("no old one's effect", 0, hall.special(1, 0));
        due("clear when over", 1, hall.clear(1));
        due("another one's program stays", 1, hall.clear(2));
    }

    void clearLeavesTheRest() {
        ThreadHall hall = alone(op(SET, 0, 4), op(END, 0));
        hall.run(1);
        hall.clear(0);
        due("result after clear", 4, hall.look(0, RESULT));
        due("state after clear", ThreadHall.OVER, hall.look(0, STATE));
        due("starts after clear", 1, hall.look(0, STARTS));
        due("done after clear", 2, hall.look(0, DONE));
    }
}
