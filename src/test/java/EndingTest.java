/** Errors, handlers, hooks and endings. */
final class EndingTest extends Hall {
    public static void main(String[] args) {
        EndingTest test = new EndingTest();
        test.resultIsTakenBeforeTheHooks();
        test.hooksInItsBindings();
        test.hooksWrapAndAddUp();
        test.hooksOfAnError();
        test.tooManyHooks();
        test.handlerServesOnce();
        test.handlerIsTakenBack();
        test.handlerSetsABinding();
        test.handlerInTheSameTurn();
        test.everyErrorEnds();
        test.whatIsGoneAtTheEnd();
        test.endLeavesTheRestUndone();
        test.close();
    }

    void resultIsTakenBeforeTheHooks() {
        ThreadHall hall = alone(op(SET, 0, 4), op(HOOK, 0, 100), op(END, 0));
        hall.run(1);
        due("result", 4, hall.look(0, RESULT));
        due("hooked", 104, hall.special(0, 0));
    }

    void hooksInItsBindings() {
        ThreadHall hall = alone(op(HOOK, 0, 1), op(HOOK, 1, 2), op(BIND, 0, 50), op(PASS));
        hall.run(1);
        due("not before it ends", 0, hall.special(0, 1));
        due("hooks", 2, hall.look(0, HOOKS));
        hall.run(1);
        due("bound, so not for others", 0, hall.special(0, 0));
        due("not bound, so for all", 2, hall.special(1, 1));
        due("no hooks then", 0, hall.look(0, HOOKS));
    }

    void hooksWrapAndAddUp() {
        ThreadHall hall = alone(op(HOOK, 2, Integer.MAX_VALUE), op(HOOK, 2, 1), op(HOOK, 2, 5), op(HOOK, 1, -3));
        hall.run(1);
        due("added up", Integer.MIN_VALUE + 5, hall.special(0, 2));
        due("another", -3, hall.special(0, 1));
    }

    void hooksOfAnError() {
        ThreadHall hall = alone(op(HOOK, 0, 9), op(UNBIND, 0));
        hall.run(1);
        due("done all the same", 9, hall.special(0, 0));
        due("result", -2, hall.look(0, RESULT));
    }

    void tooManyHooks() {
        ThreadHall hall = alone(op(HOOK, 0, 1), op(HOOK, 0, 2), op(HOOK, 0, 4), op(HOOK, 0, 8), op(PASS),
            op(HANDLE, 7), op(HOOK, 0, 16), op(PASS));
        hall.run(1);
        due("four", 4, hall.look(0, HOOKS));
        due("no error", 0, hall.count(ERRORS));
        hall.run(1);
        due("still four", 4, hall.look(0, HOOKS));
        due("error 6", 6, hall.special(0, 3));
        hall.run(1);
        due("the fifth is not done", 15, hall.special(0, 0));
    }

    void handlerServesOnce() {
        ThreadHall hall = alone(op(HANDLE, 3), op(UNBIND, 0), op(SAY, 0), op(SAY, 3), op(PASS), op(UNLOCK, 0));
        hall.run(1);
        dueSaid("at the handler", hall, 2);
        due("it has none then", 24, hall.look(0, HANDLER));
        due("errors", 1, hall.count(ERRORS));
        hall.run(1);
        due("the next one ends it", -3, hall.look(0, RESULT));
        due("special 3 stays", 2, hall.special(0, 3));
        due("errors then", 2, hall.count(ERRORS));
    }

    void handlerIsTakenBack() {
        ThreadHall hall = alone(op(HANDLE, 5), op(HANDLE, 0), op(PASS), op(HANDLE, 24), op(UNBIND, 0), op(SAY, 0));
        hall.run(1);
        due("the later one", 0, hall.look(0, HANDLER));
        hall.run(1);
        due("none", -2, hall.look(0, RESULT));
    }

    void handlerSetsABinding() {
        ThreadHall hall = alone(op(BIND, 3, 50), op(HANDLE, 3), op(UNLOCK, 1), op(SAY, 3), op(UNBIND, 3), op(SAY, 3));
        hall.run(1);
        dueSaid("in the binding alone", hall, 3, 0);
    }

    void handlerInTheSameTurn() {
        ThreadHall hall = new ThreadHall();
        loadAndStart(hall, 0, op(HANDLE, 2), op(UNBIND, 0), op(SAY, 3), op(SAY, 3), op(SAY, 3));
        due("the slice goes on", 4, hall.run(1));
        due("two are said", 2, hall.count(SAIDS));
        due("place", 4, hall.look(0, PLACE));
    }

    void everyErrorEnds() {
        int[][] wrong = {op(UNBIND, 0), op(UNLOCK, 0), op(WAIT, 0, 0), op(START, 0), op(JOIN, 0, 0), op(JOIN, 1, 0)};
        int[] number = {2, 3, 3, 4, 5, 5};
        for (int k = 0; k < wrong.length; k++) {
            ThreadHall hall = alone(wrong[k], op(SAY, 0));
            due("it is counted " + k, 1, hall.run(40));
            due("result " + k, -number[k], hall.look(0, RESULT));
            due("over " + k, ThreadHall.OVER, hall.look(0, STATE));
            due("special 3 is not set " + k, 0, hall.special(0, 3));
            due("errors " + k, 1, hall.count(ERRORS));
            due("ended " + k, 1, hall.count(ENDED));
        }
    }

    void whatIsGoneAtTheEnd() {
        ThreadHall hall = alone(op(BIND, 0, 1), op(HANDLE, 0), op(HOOK, 0, 1), op(INTERRUPT, 0), op(PASS), op(END, 0));
        hall.run(1);
        due("binding", 1, hall.look(0, BINDINGS));
        due("handler", 0, hall.look(0, HANDLER));
        due("hook", 1, hall.look(0, HOOKS));
        due("mark", 1, hall.look(0, MARKED));
        hall.run(1);
        due("no binding", 0, hall.look(0, BINDINGS));
        due("no handler", 24, hall.look(0, HANDLER));
        due("no hook", 0, hall.look(0, HOOKS));
        due("no mark", 0, hall.look(0, MARKED));
        due("done", 6, hall.look(0, DONE));
    }

    void endLeavesTheRestUndone() {
        ThreadHall hall = alone(op(SET, 1, -8), op(END, 1), op(SAY, 0));
        due("up to the end", 2, hall.run(40));
        due("result", -8, hall.look(0, RESULT));
        dueSaid("nothing", hall);
    }
}
