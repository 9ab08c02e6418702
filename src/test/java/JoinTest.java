/** The instruction JOIN. */
final class JoinTest extends Hall {
    public static void main(String[] args) {
        new JoinTest().runAll();
    }

    void joinOneThatIsOver() {
        ThreadHall hall = alone(op(PASS), op(JOIN, 1, 2), op(SAY, 2));
        loadAndStart(hall, 1, op(SET, 0, 6), op(END, 0));
        hall.run(2);
        due("at once", 2, hall.run(1));
        dueSaid("its result", hall, 6);
    }

    void joinOneThatIsAlive() {
        ThreadHall hall = alone(op(BIND, 2, 5), op(JOIN, 1, 2), op(PASS), op(PASS));
        loadAndStart(hall, 1, op(PASS), op(SET, 0, 6), op(END, 0));
        due("until it joins", 2, hall.run(1));
        due("joining", ThreadHall.JOINING, hall.look(0, STATE));
        due("place behind join", 2, hall.look(0, PLACE));
        due("how many join", 1, hall.look(1, JOINERS));
        due("not yet", 5, hall.special(0, 2));
        hall.run(2);
        due("ready", ThreadHall.READY, hall.look(0, STATE));
        due("in its binding", 6, hall.special(0, 2));
        due("not in the global", 0, hall.special(1, 2));
        due("none joins", 0, hall.look(1, JOINERS));
    }

    void severalJoinOne() {
        ThreadHall hall = new ThreadHall();
        for (int t = 0; t < 4; t++) {
            loadAndStart(hall, t, op(JOIN, 4, t), op(PASS), op(PASS));
        }
        loadAndStart(hall, 4, op(BIND, 0, -9), op(END, 0));
        hall.run(4);
        due("how many join", 4, hall.look(4, JOINERS));
        due("ready", 1, hall.count(READIES));
        hall.run(1);
        for (int t = 0; t < 4; t++) {
            due(t + " goes on", ThreadHall.READY, hall.look(t, STATE));
            due(t + " has the result", -9, hall.special(t, t));
        }
        due("none joins", 0, hall.look(4, JOINERS));
    }

    void joinOneThatBlocks() {
        ThreadHall hall = alone(op(JOIN, 1, 0));
        loadAndStart(hall, 1, op(JOIN, 0, 0));
        due("each other", 2, hall.run(40));
        due("0 joins", ThreadHall.JOINING, hall.look(0, STATE));
        due("1 joins", ThreadHall.JOINING, hall.look(1, STATE));
        due("none is ready", 0, hall.count(READIES));
        due("both are alive", 2, hall.count(ALIVE));
        loadAndStart(hall, 2, op(JOIN, 1, 0));
        hall.run(40);
        due("one that is joining itself", ThreadHall.JOINING, hall.look(2, STATE));
        due("how many join 1", 2, hall.look(1, JOINERS));
    }

    void resultOfAnError() {
        ThreadHall hall = alone(op(JOIN, 1, 0), op(SAY, 0));
        loadAndStart(hall, 1, op(UNBIND, 0));
        hall.run(40);
        dueSaid("minus the number", hall, -2);
    }

    /** What the joiner reads is what the thread ended with then, not what it ends with later. */
    void resultAfterAQuickRestart() {
        ThreadHall hall = new ThreadHall();
        loadAndStart(hall, 0, op(JOIN, 1, 2), op(SAY, 2));
        loadAndStart(hall, 1, op(ADD, 0, 1), op(END, 0));
        hall.run(2);
        hall.start(1);
        hall.run(40);
        due("its second result", 2, hall.look(1, RESULT));
        dueSaid("its first result", hall, 1);
    }
}
