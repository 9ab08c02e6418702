/** Promises 8 and 9: global values and bindings, and what is read and set. */
final class SpecialTest extends Hall {
    public static void main(String[] args) {
        new SpecialTest().runAll();
    }

    void setAddMove() {
        ThreadHall hall = alone(op(SET, 0, 5), op(ADD, 0, -7), op(MOVE, 1, 0), op(SET, 0, 1), op(MOVE, 2, 2));
        hall.run(1);
        due("set", 1, hall.special(0, 0));
        due("moved", -2, hall.special(0, 1));
        due("moved to itself", 0, hall.special(4, 2));
    }

    void bindingsAreForOneThread() {
        ThreadHall hall = alone(op(BIND, 0, 5), op(ADD, 0, 1), op(SET, 1, 8), op(PASS), op(GO, 3));
        loadAndStart(hall, 1, op(ADD, 0, 100), op(PASS), op(GO, 1));
        hall.run(2);
        due("its own", 6, hall.special(0, 0));
        due("the other reads the global", 100, hall.special(1, 0));
        due("a new one, too", 100, hall.special(2, 0));
        due("not bound, so for all", 8, hall.special(3, 1));
        due("bindings", 1, hall.look(0, BINDINGS));
        due("no bindings", 0, hall.look(1, BINDINGS));
        due("the global value itself", 100, hall.global(0, 0));
    }

    void latestBindingCounts() {
        ThreadHall hall = alone(op(BIND, 0, 1), op(BIND, 0, 2), op(ADD, 0, 10), op(SAY, 0), op(UNBIND, 0),
            op(SAY, 0), op(UNBIND, 0), op(SAY, 0));
        hall.run(1);
        dueSaid("latest first", hall, 12, 1, 0);
    }

    void unbindTakesTheLatestOfItsSpecial() {
        ThreadHall hall = alone(op(BIND, 0, 1), op(BIND, 1, 2), op(BIND, 0, 3), op(BIND, 2, 4), op(UNBIND, 0),
            op(PASS), op(UNBIND, 1), op(PASS), op(PASS));
        hall.run(1);
        due("bindings", 3, hall.look(0, BINDINGS));
        due("special 0", 1, hall.special(0, 0));
        due("special 1", 2, hall.special(0, 1));
        due("special 2", 4, hall.special(0, 2));
        hall.run(1);
        due("bindings then", 2, hall.look(0, BINDINGS));
        due("special 0 then", 1, hall.special(0, 0));
        due("special 1 then", 0, hall.special(0, 1));
        due("special 2 then", 4, hall.special(0, 2));
    }

    void moveBetweenBindings() {
        ThreadHall hall = alone(op(SET, 1, 7), op(BIND, 0, 1), op(MOVE, 0, 1), op(SAY, 0), op(BIND, 1, 9),
            op(MOVE, 2, 1), op(UNBIND, 0), op(SAY, 0));
        hall.run(1);
        dueSaid("into the binding alone", hall, 7, 0);
        due("out of a binding", 9, hall.special(0, 2));
        due("the global behind it", 7, hall.special(0, 1));
    }
}
