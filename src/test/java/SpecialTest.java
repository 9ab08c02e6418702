/** Promises 8 and 9: global values and bindings, and what is read and set. */
final class SpecialTest extends Hall {
    public static void main(String[] args) {
        SpecialTest test = new SpecialTest();
        test.globalAnswersWhatItWas();
        test.setAddMove();
        test.addWraps();
        test.bindingsAreForOneThread();
        test.latestBindingCounts();
        test.unbindTakesTheLatestOfItsSpecial();
        test.moveBetweenBindings();
        test.tooManyBindings();
        test.unbindWithoutBinding();
        test.globalBehindABinding();
        test.onesThatAreNotAlive();
        test.wrongNumbers();
        test.close();
    }

    void globalAnswersWhatItWas() {
        ThreadHall hall = new ThreadHall();
        for (int s = 0; s < 4; s++) {
            due("first", 0, hall.global(s, s + 1));
            due("second", s + 1, hall.global(s, Integer.MIN_VALUE));
            due("third", Integer.MIN_VALUE, hall.global(s, 10 * s));
        }
        due("others stay", 20, hall.special(0, 2));
    }

    void setAddMove() {
        ThreadHall hall = alone(op(SET, 0, 5), op(ADD, 0, -7), op(MOVE, 1, 0), op(SET, 0, 1), op(MOVE, 2, 2));
        hall.run(1);
        due("set", 1, hall.special(0, 0));
        due("moved", -2, hall.special(0, 1));
        due("moved to itself", 0, hall.special(4, 2));
    }

    void addWraps() {
        ThreadHall hall = alone(op(SET, 0, Integer.MAX_VALUE), op(ADD, 0, 1), op(SET, 1, Integer.MIN_VALUE),
            op(ADD, 1, Integer.MIN_VALUE));
        hall.run(1);
        due("wraps", Integer.MIN_VALUE, hall.special(0, 0));
        due("wraps to 0", 0, hall.special(0, 1));
    }

    void bindingsAreForOneThread() {
        ThreadHall hall = alone(op(BIND, 0, 5), op(ADD, 0, 1), op(SET, 1, 8), op(PASS), op(GO, 3));
        loadAndStart(hall, 1, op(ADD, 0, 100), op(PASS), op(GO, 1));
        hall.run(2);
        due("its own", 6, hall.special(0, 0));
        due("the other reads the global", 100, hall.special(1, 0));
        due("a new one, too", 100, hall.special(2, 0));
        due("not bound, so for all", 8, hall.special(3, 1));
        due("bindings", 1, hall.look(0, BINDINGS));
        due("no bindings", 0, hall.look(1, BINDINGS));
        due("the global value itself", 100, hall.global(0, 0));
    }

    void latestBindingCounts() {
        ThreadHall hall = alone(op(BIND, 0, 1), op(BIND, 0, 2), op(ADD, 0, 10), op(SAY, 0), op(UNBIND, 0),
            op(SAY, 0), op(UNBIND, 0), op(SAY, 0));
        hall.run(1);
        dueSaid("latest first", hall, 12, 1, 0);
    }

    void unbindTakesTheLatestOfItsSpecial() {
        ThreadHall hall = alone(op(BIND, 0, 1), op(BIND, 1, 2), op(BIND, 0, 3), op(BIND, 2, 4), op(UNBIND, 0),
            op(PASS), op(UNBIND, 1), op(PASS), op(PASS));
        hall.run(1);
        due("bindings", 3, hall.look(0, BINDINGS));
        due("special 0", 1, hall.special(0, 0));
        due("special 1", 2, hall.special(0, 1));
        due("special 2", 4, hall.special(0, 2));
        hall.run(1);
        due("bindings then", 2, hall.look(0, BINDINGS));
        due("special 0 then", 1, hall.special(0, 0));
        due("special 1 then", 0, hall.special(0, 1));
        due("special 2 then", 4, hall.special(0, 2));
    }

    void moveBetweenBindings() {
        ThreadHall hall = alone(op(SET, 1, 7), op(BIND, 0, 1), op(MOVE, 0, 1), op(SAY, 0), op(BIND, 1, 9),
            op(MOVE, 2, 1), op(UNBIND, 0), op(SAY, 0));
        hall.run(1);
        dueSaid("into the binding alone", hall, 7, 0);
        due("out of a binding", 9, hall.special(0, 2));
        due("the global behind it", 7, hall.special(0, 1));
    }

    void tooManyBindings() {
        ThreadHall hall = new ThreadHall();
        hall.slice(12);
        for (int k = 0; k < 13; k++) {
            hall.add(0, BIND, k % 4, k);
        }
        hall.start(0);
        hall.run(1);
        due("twelve together", 12, hall.look(0, BINDINGS));
        due("no error", 0, hall.count(ERRORS));
        due("special 0", 8, hall.special(0, 0));
        due("special 3", 11, hall.special(0, 3));
        hall.run(1);
        due("the thirteenth", -1, hall.look(0, RESULT));
        due("an error", 1, hall.count(ERRORS));
        due("none when over", 0, hall.look(0, BINDINGS));
    }

    void unbindWithoutBinding() {
        ThreadHall hall = alone(op(BIND, 1, 5), op(UNBIND, 0));
        hall.run(1);
        due("another's binding does not count", -2, hall.look(0, RESULT));
    }

    void globalBehindABinding() {
        ThreadHall hall = alone(op(BIND, 0, 5), op(PASS), op(UNBIND, 0), op(SAY, 0));
        hall.run(1);
        due("global", 0, hall.global(0, 33));
        due("the binding is as it was", 5, hall.special(0, 0));
        hall.run(1);
        dueSaid("unbound", hall, 33);
    }

    void onesThatAreNotAlive() {
        ThreadHall hall = alone(op(BIND, 0, 5), op(SET, 1, 6));
        hall.run(1);
        due("over, not bound", 0, hall.special(0, 0));
        due("over, global", 6, hall.special(0, 1));
        due("new, global", 6, hall.special(4, 1));
    }

    void wrongNumbers() {
        ThreadHall hall = new ThreadHall();
        for (int wrong : new int[] {-1, 4, Integer.MIN_VALUE, Integer.MAX_VALUE}) {
            dueIllegalArgument("global " + wrong, () -> hall.global(wrong, 1));
            dueIllegalArgument("special " + wrong, () -> hall.special(0, wrong));
        }
        for (int wrong : new int[] {-1, 5, Integer.MIN_VALUE, Integer.MAX_VALUE}) {
            dueIllegalArgument("special of thread " + wrong, () -> hall.special(wrong, 0));
        }
    }
}
