/** Errors, handlers, hooks and endings. */
final class EndingTest extends Hall {
    public static void main(String[] args) {
        new EndingTest().runAll();
    }

    void resultIsTakenBeforeTheHooks() {
        ThreadHall hall = alone(op(SET, 0, 4), op(HOOK, 0, 100), op(END, 0));
        hall.run(1);
        due("result", 4, hall.look(0, RESULT));
        due("hooked", 104, hall.special(0, 0));
    }

    void hooksInItsBindings() {
        ThreadHall hall = alone(op(HOOK, 0, 1), op(HOOK, 1, 2), op(BIND, 0, 50), op(PASS));
        hall.run(1);
        due("not before it ends", 0, hall.special(0, 1));
        due("hooks", 2, hall.look(0, HOOKS));
        hall.run(1);
        due("bound, so not for others", 0, hall.special(0, 0));
        due("not bound, so for all", 2, hall.special(1, 1));
        due("no hooks then", 0, hall.look(0, HOOKS));
    }

    void hooksWrapAndAddUp() {
        ThreadHall hall = alone(op(HOOK, 2, Integer.MAX_VALUE), op(HOOK, 2, 1), op(HOOK, 2, 5), op(HOOK, 1, -3));
        hall.run(1);
        due("added up", Integer.MIN_VALUE + 5, hall.special(0, 2));
        due("another", -3, hall.special(0, 1));
    }

    void hooksOfAnError() {
        ThreadHall hall = alone(op(HOOK, 0, 9), op(UNBIND, 0));
        hall.run(1);
        due("done all the same", 9, hall.special(0, 0));
        due("result", -2, hall.look(0, RESULT));
    }

    void handlerServesOnce() {
        ThreadHall hall = alone(op(HANDLE, 3), op(UNBIND, 0), op(SAY, 0), op(SAY, 3), op(PASS), op(UNLOCK, 0));
        hall.run(1);
        dueSaid("at the handler", hall, 2);
        due("it has none then", 24, hall.look(0, HANDLER));
        due("errors", 1, hall.count(ERRORS));
        hall.run(1);
        due("the next one ends it", -3, hall.look(0, RESULT));
        due("special 3 stays", 2, hall.special(0, 3));
        due("errors then", 2, hall.count(ERRORS));
    }

    void handlerIsTakenBack() {
        ThreadHall hall = alone(op(HANDLE, 5), op(HANDLE, 0), op(PASS), op(HANDLE, 24), op(UNBIND, 0), op(SAY, 0));
        hall.run(1);
        due("the later one", 0, hall.look(0, HANDLER));
        hall.run(1);
        due("none", -2, hall.look(0, RESULT));
    }

    void handlerInTheSameTurn() {
        ThreadHall hall = new ThreadHall();
        loadAndStart(hall, 0, op(HANDLE, 2), op(UNBIND, 0), op(SAY, 3), op(SAY, 3), op(SAY, 3));
        due("the slice goes on", 4, hall.run(1));
        due("two are said", 2, hall.count(SAIDS));
        due("place", 4, hall.look(0, PLACE));
    }

    void whatIsGoneAtTheEnd() {
        ThreadHall hall = alone(op(BIND, 0, 1), op(HANDLE, 0), op(HOOK, 0, 1), op(INTERRUPT, 0), op(PASS), op(END, 0));
        hall.run(1);
        due("binding", 1, hall.look(0, BINDINGS));
        due("handler", 0, hall.look(0, HANDLER));
        due("hook", 1, hall.look(0, HOOKS));
        due("mark", 1, hall.look(0, MARKED));
        hall.run(1);
        due("no binding", 0, hall.look(0, BINDINGS));
        due("no handler", 24, hall.look(0, HANDLER));
        due("no hook", 0, hall.look(0, HOOKS));
        due("no mark", 0, hall.look(0, MARKED));
        due("done", 6, hall.look(0, DONE));
    }

    void endLeavesTheRestUndone() {
        ThreadHall hall = alone(op(SET, 1, -8), op(END, 1), op(SAY, 0));
        due("up to the end", 2, hall.run(40));
        due("result", -8, hall.look(0, RESULT));
        dueSaid("nothing", hall);
    }
}
