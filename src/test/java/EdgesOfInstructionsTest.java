/** The edges that INSTRUCTIONS 0 to 7 and 14 to 20 name; above each test stand the words it is about. */
final class EdgesOfInstructionsTest extends Hall {
    private static final int MIN = Integer.MIN_VALUE, MAX = Integer.MAX_VALUE;

    public static void main(String[] args) {
        new EdgesOfInstructionsTest().runAll();
    }

    /** "0 SET s v: s is v." with "v any int" */
    void setToAnyInt() {
        ThreadHall hall = alone(op(SET, 0, MIN), op(SAY, 0), op(SET, 0, MAX), op(SAY, 0), op(SET, 0, 0), op(SAY, 0));
        hall.run(1);
        dueSaid("set", hall, MIN, MAX, 0);
    }

    /** "1 ADD s v: s grows by v (wraps)." */
    void addWrapsBothWays() {
        ThreadHall hall = alone(op(SET, 0, MAX), op(ADD, 0, 1), op(SAY, 0), op(ADD, 0, -1), op(SAY, 0),
            op(ADD, 0, MAX), op(SAY, 0), op(SET, 0, MIN), op(ADD, 0, MIN), op(SAY, 0), op(BIND, 0, MAX),
            op(ADD, 0, MAX), op(SAY, 0));
        hall.run(1);
        dueSaid("wrapped", hall, MIN, MAX, -2, 0, -2);
    }

    /** "2 MOVE s s2: s is s2." */
    void moveToItself() {
        ThreadHall hall = alone(op(SET, 0, 5), op(MOVE, 0, 0), op(SAY, 0), op(BIND, 0, 6), op(MOVE, 0, 0), op(SAY, 0),
            op(UNBIND, 0), op(SAY, 0));
        hall.run(1);
        dueSaid("as it was", hall, 5, 6, 5);
    }

    /** "3 BIND s v: s is bound to v (ERROR 1 if it has 12 bindings)." */
    void bindWhereTwelveAre() {
        ThreadHall hall = new ThreadHall();
        hall.slice(20);
        hall.add(0, HANDLE, 14, 0);
        for (int k = 1; k <= 12; k++) {
            hall.add(0, BIND, 1, k);
        }
        loadAndStart(hall, 0, op(BIND, 0, 13), op(PASS), op(UNBIND, 1), op(BIND, 0, 14), op(PASS), op(BIND, 0, 15));
        hall.run(1);
        due("error 1", 1, hall.special(0, 3));
        due("twelve as before", 12, hall.look(0, BINDINGS));
        due("not bound", 0, hall.special(0, 0));
        due("the latest stays", 12, hall.special(0, 1));
        hall.run(1);
        due("twelve again", 12, hall.look(0, BINDINGS));
        due("room for another", 14, hall.special(0, 0));
        due("the one before it", 11, hall.special(0, 1));
        due("no error", 1, hall.count(ERRORS));
        hall.run(1);
        due("full again", -1, hall.look(0, RESULT));
    }

    /** "4 UNBIND s: its latest binding is gone (ERROR 2 if it has none)." */
    void unbindWhereNoneIs() {
        ThreadHall never = alone(op(SET, 0, 5), op(HANDLE, 2), op(UNBIND, 0), op(PASS));
        never.run(1);
        due("never bound", 2, never.special(0, 3));
        due("the global value stays", 5, never.special(0, 0));
        ThreadHall others = alone(op(BIND, 1, 5), op(BIND, 2, 6), op(HANDLE, 4), op(UNBIND, 0), op(PASS), op(PASS));
        others.run(1);
        due("bindings of others", 2, others.special(0, 3));
        due("they stay", 2, others.look(0, BINDINGS));
        ThreadHall once = alone(op(BIND, 0, 5), op(UNBIND, 0), op(PASS), op(UNBIND, 0));
        once.run(1);
        due("the only one", 0, once.count(ERRORS));
        once.run(1);
        due("once more than bound", -2, once.look(0, RESULT));
    }

    /** "UNBIND s: its latest binding is gone": that of s, and in this THREAD alone. */
    void unbindInOneThreadAlone() {
        ThreadHall hall = alone(op(BIND, 0, 5), op(PASS), op(PASS));
        loadAndStart(hall, 1, op(UNBIND, 0));
        hall.run(2);
        due("another's binding", -2, hall.look(1, RESULT));
        due("it stays", 5, hall.special(0, 0));
    }

    /** "5 LOCK m: if none has it, or it has it itself: it has it once more" */
    void lockThatIsFreeOrItsOwn() {
        ThreadHall hall = alone(op(LOCK, 0), op(PASS), op(LOCK, 0), op(PASS), op(PASS));
        hall.run(1);
        due("free", 1, hall.lock(0, OFTEN));
        hall.run(1);
        due("its own", 2, hall.lock(0, OFTEN));
        due("ready", ThreadHall.READY, hall.look(0, STATE));
        due("no row", 0, hall.lock(0, LOCK_ROW));
    }

    /** "else it is LOCKING, behind others in the row of m" */
    void lockBehindAllOthers() {
        ThreadHall hall = new ThreadHall();
        loadAndStart(hall, 2, op(LOCK, 1), op(PASS), op(IFZERO, 1, 1), op(UNLOCK, 1));
        hall.run(1);
        int[] row = {4, 1, 3, 0};
        for (int k = 0; k < 4; k++) {
            loadAndStart(hall, row[k], op(LOCK, 1), op(BIND, 0, row[k]), op(SAY, 0));
            hall.run(2);
            due("locking", ThreadHall.LOCKING, hall.look(row[k], STATE));
            due("the row", k + 1, hall.lock(1, LOCK_ROW));
        }
        due("still had once", 1, hall.lock(1, OFTEN));
        hall.global(1, 1);
        hall.run(40);
        dueSaid("in the order of the row", hall, 4, 1, 3, 0);
        due("an empty row at last", 0, hall.lock(1, LOCK_ROW));
        due("had by none at last", -1, hall.lock(1, OWNER));
    }

    /** "6 UNLOCK m: it has it once less" */
    void unlockUntilItIsFree() {
        ThreadHall hall = alone(op(LOCK, 0), op(LOCK, 0), op(UNLOCK, 0), op(PASS), op(UNLOCK, 0), op(PASS));
        hall.run(1);
        due("once is left", 1, hall.lock(0, OFTEN));
        due("it has it", 0, hall.lock(0, OWNER));
        hall.run(1);
        due("none is left", 0, hall.lock(0, OFTEN));
        due("none has it", -1, hall.lock(0, OWNER));
    }

    /** "6 UNLOCK m: it has it once less (ERROR 3 if it does not have it)." */
    void unlockWhatItDoesNotHave() {
        ThreadHall hall = new ThreadHall();
        hall.slice(20);
        loadAndStart(hall, 0, op(LOCK, 0), op(LOCK, 0), op(PASS), op(PASS));
        loadAndStart(hall, 1, op(HANDLE, 3), op(LOCK, 1), op(UNLOCK, 0), op(SAY, 3), op(PASS));
        loadAndStart(hall, 2, op(UNLOCK, 2));
        loadAndStart(hall, 3, op(LOCK, 2), op(UNLOCK, 2), op(UNLOCK, 2));
        hall.run(4);
        dueSaid("another has it", hall, 3);
        due("it has it as often as before", 2, hall.lock(0, OFTEN));
        due("the other one it has", 1, hall.lock(1, OWNER));
        due("none ever had it", -3, hall.look(2, RESULT));
        due("once more than it had it", -3, hall.look(3, RESULT));
        due("none has it", -1, hall.lock(2, OWNER));
        due("not even less than never", 0, hall.lock(2, OFTEN));
    }

    /** "7 TRY m s: s is 1, and it has it once more, if none else has it" */
    void tryThatIsFreeOrItsOwn() {
        ThreadHall hall = alone(op(TRY, 1, 0), op(SAY, 0), op(SET, 0, 0), op(TRY, 1, 0), op(SAY, 0), op(PASS));
        hall.run(1);
        dueSaid("both", hall, 1, 1);
        due("twice", 2, hall.lock(1, OFTEN));
        due("by itself", 0, hall.lock(1, OWNER));
    }

    /** "TRY m s: .. else s is 0" */
    void tryThatAnotherHas() {
        ThreadHall hall = alone(op(LOCK, 1), op(PASS), op(PASS));
        loadAndStart(hall, 1, op(SET, 0, 9), op(TRY, 1, 0), op(SAY, 0), op(PASS), op(PASS));
        due("it goes on behind it", 6, hall.run(2));
        dueSaid("zero", hall, 0);
        due("ready", ThreadHall.READY, hall.look(1, STATE));
        due("once, as before", 1, hall.lock(1, OFTEN));
        due("not in the row", 0, hall.lock(1, LOCK_ROW));
    }

    /** "14 HANDLE p: its handler is at p (24: it has none)." */
    void handleAtTheEdges() {
        ThreadHall none = alone(op(HANDLE, 0), op(PASS), op(HANDLE, 24), op(PASS), op(UNBIND, 0));
        none.run(1);
        due("at 0", 0, none.look(0, HANDLER));
        none.run(1);
        due("at 24", 24, none.look(0, HANDLER));
        none.run(1);
        due("so it has none", -2, none.look(0, RESULT));
        ThreadHall first = alone(op(IFZERO, 3, 2), op(END, 3), op(HANDLE, 0), op(UNBIND, 0));
        first.run(1);
        due("at the first one", 2, first.look(0, RESULT));
        ThreadHall last = new ThreadHall();
        load(last, 0, op(HANDLE, 23), op(UNBIND, 0));
        for (int k = 2; k < 23; k++) {
            last.add(0, SAY, 3, 0);
        }
        loadAndStart(last, 0, op(END, 3));
        due("three are done", 3, last.run(40));
        due("at the last one", 2, last.look(0, RESULT));
    }

    /** "15 HOOK s v: when it ends, v is added to s (the last one first; 4 at most, else ERROR 6)." */
    void hookWhereFourAre() {
        ThreadHall hall = alone(op(HOOK, 0, 1), op(HOOK, 1, 2), op(HOOK, 0, 4), op(HOOK, 2, 8), op(PASS), op(HANDLE, 7),
            op(HOOK, 0, 16), op(PASS), op(HOOK, 0, 32));
        hall.run(1);
        due("four", 4, hall.look(0, HOOKS));
        due("no error", 0, hall.count(ERRORS));
        hall.run(1);
        due("error 6", 6, hall.special(0, 3));
        due("four as before", 4, hall.look(0, HOOKS));
        due("none is done yet", 0, hall.special(0, 0));
        hall.run(1);
        due("error 6 without a handler", -6, hall.look(0, RESULT));
        due("the four of 0", 5, hall.special(0, 0));
        due("the four of 1", 2, hall.special(0, 1));
        due("the four of 2", 8, hall.special(0, 2));
    }

    /** "HOOK s v" with "v any int": it is added as by ADD, which wraps. */
    void hookThatWraps() {
        ThreadHall hall = alone(op(SET, 0, MAX), op(HOOK, 0, 1), op(SET, 1, MIN), op(HOOK, 1, MIN));
        hall.run(1);
        due("beyond the most", MIN, hall.special(0, 0));
        due("beyond the least", 0, hall.special(0, 1));
    }

    /** "16 GO p." with "p a place 0..24" */
    void goToTheEdges() {
        ThreadHall first = alone(op(ADD, 0, 1), op(GO, 0));
        due("round about", 20, first.run(1));
        due("from the first one on", 10, first.special(0, 0));
        ThreadHall itself = alone(op(GO, 0));
        due("to itself: a turn has an end", 20, itself.run(1));
        ThreadHall behind = new ThreadHall();
        behind.add(0, GO, 24, 0);
        for (int k = 1; k < 24; k++) {
            behind.add(0, SAY, 0, 0);
        }
        behind.start(0);
        due("behind a full program", 1, behind.run(40));
        due("it is over", ThreadHall.OVER, behind.look(0, STATE));
    }

    /** "17 IFZERO s p: to p if s is 0." */
    void ifZeroOnlyIfZero() {
        for (int v : new int[] {MIN, -1, 0, 1, MAX}) {
            ThreadHall hall = alone(op(IFZERO, 2, 2), op(SAY, 2));
            hall.global(2, v);
            due("with " + v, v == 0 ? 1 : 2, hall.run(40));
            due("it is over", 0, hall.look(0, RESULT));
        }
    }

    /** "18 SAY s: s is SAID." */
    void sayAnyInt() {
        ThreadHall hall = alone(op(SAY, 0), op(BIND, 0, MIN), op(SAY, 0), op(SET, 3, MAX), op(SAY, 3));
        hall.run(1);
        dueSaid("said", hall, 0, MIN, MAX);
    }

    /** "19 END s: it ends with the result s." */
    void endWithAnyInt() {
        for (int v : new int[] {MIN, -1, 0, 1, MAX}) {
            ThreadHall hall = alone(op(BIND, 1, v), op(END, 1), op(SAY, 0));
            due("up to END", 2, hall.run(40));
            due("over", ThreadHall.OVER, hall.look(0, STATE));
            due("the binding's value", v, hall.look(0, RESULT));
            due("no error, also below 0", 0, hall.count(ERRORS));
        }
    }

    /** "20 PASS: its TURN is over." */
    void passAtTheEdges() {
        ThreadHall alone = alone(op(PASS));
        due("the only one", 1, alone.run(1));
        due("it has not ended in that turn", ThreadHall.READY, alone.look(0, STATE));
        due("no further one", 0, alone.run(1));
        due("it ends in the next", ThreadHall.OVER, alone.look(0, STATE));
        ThreadHall ofOne = new ThreadHall();
        ofOne.slice(1);
        loadAndStart(ofOne, 0, op(PASS), op(SAY, 0));
        due("a slice of one", 1, ofOne.run(1));
        due("one turn alone", 1, ofOne.count(TURNS));
        due("the next one", 1, ofOne.run(1));
        dueSaid("said in the next turn", ofOne, 0);
    }
}
