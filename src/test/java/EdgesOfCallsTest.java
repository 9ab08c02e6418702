/** The edges that promises 1 to 13 name, call by call; above each test stand the words it is about. */
final class EdgesOfCallsTest extends Hall {
    private static final int MIN = Integer.MIN_VALUE, MAX = Integer.MAX_VALUE;

    // How many values (from 0) an operand may have, op by op; ANY where all are as said or it is not looked at.
    private static final int ANY = 0;
    private static final int[] FIRST = {4, 4, 4, 4, 4, 3, 3, 3, 3, 3, 3, 5, 5, 5, 25, 4, 25, 4, 4, 4, ANY};
    private static final int[] SECOND = {ANY, ANY, 4, ANY, ANY, ANY, ANY, 4, 3, ANY, ANY, ANY, 4, ANY, ANY,
        ANY, ANY, 25, ANY, ANY, ANY};

    public static void main(String[] args) {
        new EdgesOfCallsTest().runAll();
    }

    /** Promise 2: "IllegalArgumentException: t is not 0..4, op not 0..20" */
    void addOutside() {
        ThreadHall hall = new ThreadHall();
        for (int wrong : outside(5)) {
            dueIllegalArgument("add to thread " + wrong, () -> hall.add(wrong, PASS, 0, 0));
        }
        for (int wrong : outside(21)) {
            dueIllegalArgument("add op " + wrong, () -> hall.add(0, wrong, 0, 0));
        }
        due("op 0 to the first", 1, hall.add(0, 0, 0, 0));
        due("op 20 to the last", 1, hall.add(4, 20, 0, 0));
    }

    /** Promise 2: "or a or b not as said" */
    void addOperandsOutside() {
        ThreadHall hall = new ThreadHall();
        for (int op = 0; op <= PASS; op++) {
            int itself = op;
            for (int wrong : FIRST[op] == ANY ? new int[0] : outside(FIRST[op])) {
                dueIllegalArgument("op " + op + " with a " + wrong, () -> hall.add(0, itself, wrong, 0));
            }
            for (int wrong : SECOND[op] == ANY ? new int[0] : outside(SECOND[op])) {
                dueIllegalArgument("op " + op + " with b " + wrong, () -> hall.add(0, itself, 0, wrong));
            }
        }
        due("none was added", 1, hall.add(0, PASS, 0, 0));
    }

    /** Promise 2: "a or b not as said (what an INSTRUCTION does not have is not looked at)" */
    void addOperandsInside() {
        for (int op = 0; op <= PASS; op++) {
            int leastA = FIRST[op] == ANY ? MIN : 0;
            int mostA = FIRST[op] == ANY ? MAX : FIRST[op] - 1;
            int leastB = SECOND[op] == ANY ? MIN : 0;
            int mostB = SECOND[op] == ANY ? MAX : SECOND[op] - 1;
            ThreadHall hall = new ThreadHall();
            due("op " + op + " with the least", 1, hall.add(0, op, leastA, leastB));
            due("op " + op + " with the most", 2, hall.add(0, op, mostA, mostB));
            due("op " + op + " with the least and the most", 3, hall.add(0, op, leastA, mostB));
        }
    }

    /** Promise 2: "what an INSTRUCTION does not have is not looked at": nor does it matter when it is done. */
    void operandsThatDoNotMatter() {
        for (int odd : new int[] {MIN, -1, 99, MAX}) {
            ThreadHall hall = alone(op(BIND, 0, 6), op(UNBIND, 0, odd), op(LOCK, 0, odd), op(UNLOCK, 0, odd),
                op(TELL, 0, odd), op(TELLALL, 0, odd), op(START, 1, odd), op(INTERRUPT, 1, odd), op(HANDLE, 23, odd),
                op(GO, 10, odd), op(SAY, 0, odd), op(PASS, odd, odd), op(END, 0, odd));
            due("all are done", 12, hall.run(1));
            dueSaid("as ever", hall, 0);
            due("no error", 0, hall.count(ERRORS));
            due("the other is marked", 1, hall.look(1, MARKED));
        }
    }

    /** Promise 2: "IllegalStateException: t is ALIVE." Promise 3: "IllegalStateException likewise." */
    void addAndClearOneOfEveryKind() {
        ThreadHall hall = everyKind();
        for (int t = 0; t < 4; t++) {
            int itself = t;
            dueIllegalState("add to " + t, () -> hall.add(itself, PASS, 0, 0));
            dueIllegalState("clear " + t, () -> hall.clear(itself));
        }
        due("add to a new one", 1, hall.add(4, SAY, 0, 0));
        due("clear a new one", 1, hall.clear(4));
        hall.start(4);
        hall.run(1);
        due("add to one that is over", 1, hall.add(4, SAY, 0, 0));
        due("clear one that is over", 1, hall.clear(4));
        hall.start(4);
        dueIllegalState("add to one that started again", () -> hall.add(4, PASS, 0, 0));
    }

    /** Promise 2: "IndexOutOfBoundsException: it has 24." */
    void addWhere24Are() {
        ThreadHall hall = new ThreadHall();
        for (int k = 1; k <= 24; k++) {
            due("how many it has", k, hall.add(0, ADD, 0, 1));
        }
        dueOutOfBounds("one more", () -> hall.add(0, ADD, 0, 1));
        dueOutOfBounds("and again", () -> hall.add(0, PASS, 0, 0));
        due("another has room", 1, hall.add(1, ADD, 0, 1));
        hall.start(0);
        due("24 are done", 24, hall.run(40));
        due("each once", 24, hall.special(0, 0));
        dueOutOfBounds("one more when it is over", () -> hall.add(0, ADD, 0, 1));
        due("24 are gone", 24, hall.clear(0));
        due("room again", 1, hall.add(0, ADD, 0, 1));
    }

    /** Promise 2: where more than one is wrong, what the document tells first. */
    void addWithMoreThanOneFault() {
        ThreadHall hall = new ThreadHall();
        for (int k = 0; k < 24; k++) {
            hall.add(0, PASS, 0, 0);
        }
        dueIllegalArgument("full, wrong op", () -> hall.add(0, 21, 0, 0));
        dueIllegalArgument("full, wrong operand", () -> hall.add(0, SET, 4, 0));
        hall.start(0);
        dueIllegalState("full, alive", () -> hall.add(0, PASS, 0, 0));
        dueIllegalArgument("full, alive, wrong op", () -> hall.add(0, 21, 0, 0));
        dueIllegalArgument("full, alive, wrong operand", () -> hall.add(0, MOVE, 0, 4));
    }

    /** Promise 3: "THREAD t has no INSTRUCTIONS: how many it had. IllegalArgumentException .. likewise." */
    void clearAtTheEdges() {
        ThreadHall hall = new ThreadHall();
        for (int wrong : outside(5)) {
            dueIllegalArgument("clear " + wrong, () -> hall.clear(wrong));
        }
        due("the first, empty", 0, hall.clear(0));
        hall.add(4, PASS, 0, 0);
        due("the last, with one", 1, hall.clear(4));
        due("empty then", 0, hall.clear(4));
        hall.start(4);
        due("nothing to do", 0, hall.run(40));
    }

    /** Promise 4: "As START says: 1; 0 if t is ALIVE." */
    void startOneOfEveryKind() {
        ThreadHall hall = everyKind();
        int[] before = told(hall);
        for (int t = 0; t < 4; t++) {
            due("start " + t, 0, hall.start(t));
        }
        dueSame("starting those that are alive", before, told(hall));
        due("one that is new", 1, hall.start(4));
        due("once more", 0, hall.start(4));
        hall.run(1);
        due("it is over", ThreadHall.OVER, hall.look(4, STATE));
        due("one that is over", 1, hall.start(4));
        due("it started twice", 2, hall.look(4, STARTS));
    }

    /** Promise 4: "IllegalArgumentException: t is not 0..4." */
    void startOutside() {
        ThreadHall hall = new ThreadHall();
        for (int wrong : outside(5)) {
            dueIllegalArgument("start " + wrong, () -> hall.start(wrong));
        }
        due("none is alive", 0, hall.count(ALIVE));
        due("the first", 1, hall.start(0));
        due("the last", 1, hall.start(4));
    }

    /** Promise 5: "n (1..40) TURNS: how many INSTRUCTIONS were done" and "IllegalArgumentException: another n." */
    void runOutside() {
        ThreadHall hall = alone(op(GO, 0));
        for (int wrong : new int[] {0, -1, 41, MIN, MAX}) {
            dueIllegalArgument("run " + wrong, () -> hall.run(wrong));
        }
        due("nothing was run", 0, hall.count(TURNS));
        due("the least", 20, hall.run(1));
        due("one turn", 1, hall.count(TURNS));
        due("the most", 800, hall.run(40));
        due("40 more turns", 41, hall.count(TURNS));
    }

    /** Promise 5: "it ends where none is READY" */
    void runWhereNoneIsReady() {
        ThreadHall hall = new ThreadHall();
        due("none started", 0, hall.run(40));
        due("no turn", 0, hall.count(TURNS));
        loadAndStart(hall, 0, op(LOCK, 0), op(PASS), op(LOCK, 1));
        loadAndStart(hall, 1, op(LOCK, 1), op(PASS), op(LOCK, 0));
        due("until each wants what the other has", 6, hall.run(40));
        due("four turns", 4, hall.count(TURNS));
        due("both are alive", 2, hall.count(ALIVE));
        due("but not ready", 0, hall.run(1));
        due("no further turn", 4, hall.count(TURNS));
        due("the last turn", 1, hall.count(LAST));
    }

    /** Promise 6: "As INTERRUPT says, from outside: 1; 0 if t is not ALIVE." */
    void interruptOneOfEveryKind() {
        ThreadHall hall = everyKind();
        int[] before = told(hall);
        due("one that is new", 0, hall.interrupt(4));
        dueSame("interrupting a new one", before, told(hall));
        for (int t = 0; t < 4; t++) {
            due("interrupt " + t, 1, hall.interrupt(t));
        }
        int[] stands = {ThreadHall.READY, ThreadHall.LOCKING, ThreadHall.READY, ThreadHall.READY};
        for (int t = 0; t < 4; t++) {
            due("how " + t + " stands", stands[t], hall.look(t, STATE));
            due("whether " + t + " is marked", t < 2 ? 1 : 0, hall.look(t, MARKED));
        }
    }

    /** Promise 6: "0 if t is not ALIVE": also one that was. */
    void interruptOneThatIsOver() {
        ThreadHall hall = alone(op(SAY, 0));
        hall.run(1);
        int[] before = told(hall);
        due("over", 0, hall.interrupt(0));
        dueSame("interrupting one that is over", before, told(hall));
    }

    /** Promise 6: "IllegalArgumentException: t is not 0..4." */
    void interruptOutside() {
        ThreadHall hall = new ThreadHall();
        for (int wrong : outside(5)) {
            dueIllegalArgument("interrupt " + wrong, () -> hall.interrupt(wrong));
        }
        due("the first", 0, hall.interrupt(0));
        due("the last", 0, hall.interrupt(4));
    }

    /** Promise 7: "SLICE (1..20): what it was. IllegalArgumentException: another n." */
    void sliceOutside() {
        ThreadHall hall = new ThreadHall();
        for (int wrong : new int[] {0, -1, 21, MIN, MAX}) {
            dueIllegalArgument("slice " + wrong, () -> hall.slice(wrong));
        }
        loadAndStart(hall, 0, op(GO, 0));
        due("as it was", 4, hall.slice(1));
        due("the least", 1, hall.run(1));
        due("it was the least", 1, hall.slice(20));
        due("the most", 20, hall.run(1));
        due("it was the most", 20, hall.slice(20));
    }

    /** Promise 8: "The global value of a SPECIAL is v: what it was." with any v */
    void globalOfAnyInt() {
        ThreadHall hall = new ThreadHall();
        for (int s = 0; s < 4; s++) {
            due("at first", 0, hall.global(s, MIN));
            due("the least", MIN, hall.global(s, MAX));
            due("the most", MAX, hall.global(s, s));
        }
        for (int s = 0; s < 4; s++) {
            due("each for itself", s, hall.global(s, 0));
        }
    }

    /** Promise 8: "The global value": not that of a binding. */
    void globalBehindABinding() {
        ThreadHall hall = alone(op(SET, 0, 4), op(BIND, 0, 5), op(PASS), op(UNBIND, 0), op(SAY, 0));
        hall.run(1);
        due("what it was", 4, hall.global(0, 33));
        due("the binding is as it was", 5, hall.special(0, 0));
        due("another reads it", 33, hall.special(1, 0));
        hall.run(1);
        dueSaid("unbound", hall, 33);
    }

    /** Promise 8: "IllegalArgumentException: s is not 0..3." */
    void globalOutside() {
        ThreadHall hall = new ThreadHall();
        int[] before = told(hall);
        for (int wrong : outside(4)) {
            dueIllegalArgument("global " + wrong, () -> hall.global(wrong, 1));
        }
        dueSame("wrong ones", before, told(hall));
    }

    /** Promise 9: "What THREAD t (ALIVE or not; one that is not has no bindings) reads of a SPECIAL." */
    void specialOfOneThatIsNotAlive() {
        ThreadHall hall = alone(op(BIND, 0, 5), op(BIND, 3, 7), op(SET, 1, 6), op(PASS));
        hall.global(0, 9);
        hall.run(1);
        due("alive, bound", 5, hall.special(0, 0));
        due("alive, not bound", 6, hall.special(0, 1));
        due("new", 9, hall.special(4, 0));
        hall.run(1);
        due("over", 9, hall.special(0, 0));
        due("over, special 3", 0, hall.special(0, 3));
        hall.start(0);
        due("started again", 9, hall.special(0, 0));
    }

    /** Promise 9: "IllegalArgumentException: t is not 0..4, or s not 0..3." */
    void specialOutside() {
        ThreadHall hall = new ThreadHall();
        for (int wrong : outside(5)) {
            dueIllegalArgument("special of " + wrong, () -> hall.special(wrong, 0));
        }
        for (int wrong : outside(4)) {
            dueIllegalArgument("special " + wrong, () -> hall.special(0, wrong));
        }
        due("the first of the first", 0, hall.special(0, 0));
        due("the last of the last", 0, hall.special(4, 3));
    }

    /** Promise 10: "2: its result (0 if it never was OVER)" */
    void resultOfOneThatNeverWasOver() {
        ThreadHall hall = alone(op(SET, 0, 5), op(PASS), op(END, 0));
        due("ready", 0, hall.look(0, RESULT));
        hall.run(1);
        due("half done", 0, hall.look(0, RESULT));
        hall.run(1);
        due("over", 5, hall.look(0, RESULT));
        due("never started", 0, hall.look(1, RESULT));
        hall.start(0);
        due("was over before", 5, hall.look(0, RESULT));
    }

    /** Promise 10: "6: its handler (24 if none)" */
    void handlerOfOneThatHasNone() {
        ThreadHall hall = alone(op(HANDLE, 3), op(PASS), op(UNBIND, 0), op(PASS), op(HANDLE, 4), op(PASS));
        due("at first", 24, hall.look(0, HANDLER));
        hall.run(1);
        due("set", 3, hall.look(0, HANDLER));
        hall.run(1);
        due("used", 24, hall.look(0, HANDLER));
        hall.run(1);
        due("set again", 4, hall.look(0, HANDLER));
        hall.run(1);
        due("ended", 24, hall.look(0, HANDLER));
    }

    /** Promise 10: "7: INSTRUCTIONS done since it STARTED last; 8: how often it STARTED" */
    void countsSinceTheLastStart() {
        ThreadHall hall = alone(op(PASS), op(PASS));
        for (int k = 1; k <= 3; k++) {
            due("none yet", 0, hall.look(0, DONE));
            due("started", k, hall.look(0, STARTS));
            hall.run(40);
            due("done, and when over", 2, hall.look(0, DONE));
            hall.start(0);
        }
        due("all of them", 6, hall.count(INSTRUCTIONS));
    }

    /** Promise 10: "IllegalArgumentException: t is not 0..4, or for others." */
    void lookOutside() {
        ThreadHall hall = new ThreadHall();
        for (int wrong : outside(5)) {
            dueIllegalArgument("look at " + wrong, () -> hall.look(wrong, 0));
        }
        for (int wrong : outside(10)) {
            dueIllegalArgument("look for " + wrong, () -> hall.look(0, wrong));
        }
        due("the last of the last", 0, hall.look(4, 9));
    }

    /** Promise 11: "0: the THREAD that has it, -1 if none; 1: how often; 2: how many are in its row" */
    void lockThatNoneHas() {
        ThreadHall hall = alone(op(LOCK, 0), op(PASS), op(UNLOCK, 0), op(PASS));
        due("never had", -1, hall.lock(0, OWNER));
        hall.run(1);
        due("had by the first", 0, hall.lock(0, OWNER));
        due("had once", 1, hall.lock(0, OFTEN));
        hall.run(1);
        due("had no more", -1, hall.lock(0, OWNER));
        due("no more at all", 0, hall.lock(0, OFTEN));
        due("no row", 0, hall.lock(0, LOCK_ROW));
    }

    /** Promise 11: "3: of CONDITION m: how many are in its row": not of LOCK m. */
    void rowOfAConditionBesideALock() {
        ThreadHall hall = alone(op(LOCK, 0), op(WAIT, 2, 0));
        hall.run(1);
        int[] rows = {0, 0, 1};
        for (int m = 0; m < 3; m++) {
            due("the row of condition " + m, rows[m], hall.lock(m, CONDITION_ROW));
            due("the row of lock " + m, 0, hall.lock(m, LOCK_ROW));
        }
    }

    /** Promise 11: "IllegalArgumentException: m is not 0..2, or for others." */
    void lockOutside() {
        ThreadHall hall = new ThreadHall();
        for (int wrong : outside(3)) {
            for (int what = 0; what < 4; what++) {
                int itself = what;
                dueIllegalArgument("lock " + wrong + " for " + what, () -> hall.lock(wrong, itself));
            }
        }
        for (int wrong : outside(4)) {
            dueIllegalArgument("lock 0 for " + wrong, () -> hall.lock(0, wrong));
        }
        due("the last of the last", 0, hall.lock(2, 3));
    }

    /** Promise 12: "The k-th int SAID (0 first; the first 40 are kept). IndexOutOfBoundsException: there is none." */
    void saidUpToForty() {
        ThreadHall hall = alone(op(SAY, 0), op(ADD, 0, 1), op(PASS), op(GO, 0));
        dueOutOfBounds("none yet", () -> hall.said(0));
        for (int k = 0; k < 40; k++) {
            int next = k + 1;
            hall.run(1);
            due("the latest", k, hall.said(k));
            dueOutOfBounds("the next", () -> hall.said(next));
        }
        hall.run(5);
        dueOutOfBounds("the 41st is not kept", () -> hall.said(40));
        dueOutOfBounds("nor is the last", () -> hall.said(44));
        due("the first stays", 0, hall.said(0));
        due("the 40th stays", 39, hall.said(39));
        for (int wrong : outside(45)) {
            dueOutOfBounds("said " + wrong, () -> hall.said(wrong));
        }
    }

    /** Promise 13: "0: ints SAID": those that are not kept were SAID, too. */
    void countOfMoreThanForty() {
        ThreadHall hall = alone(op(SAY, 0), op(SAY, 0), op(GO, 0));
        hall.run(3);
        due("all of 60 instructions but every third", 40, hall.count(SAIDS));
        hall.run(1);
        due("beyond forty", 54, hall.count(SAIDS));
    }

    /** Promise 13: "6: the THREAD that had the last TURN, -1 if none" */
    void lastTurnOfNone() {
        ThreadHall hall = new ThreadHall();
        due("none", -1, hall.count(LAST));
        hall.run(1);
        due("none was ready", -1, hall.count(LAST));
        hall.start(0);
        due("not by starting", -1, hall.count(LAST));
        hall.run(1);
        due("the first", 0, hall.count(LAST));
        hall.run(40);
        due("it is over, but had it", 0, hall.count(LAST));
    }

    /** Promise 13: "3: THREADS that are ALIVE; 4: READY ones; .. 7: THREADS that ended" from none to all */
    void countsFromNoneToAll() {
        ThreadHall hall = new ThreadHall();
        for (int t = 0; t < 5; t++) {
            due("alive", t, hall.count(ALIVE));
            due("ready", t, hall.count(READIES));
            hall.start(t);
        }
        for (int t = 0; t < 5; t++) {
            due("alive then", 5 - t, hall.count(ALIVE));
            due("ready then", 5 - t, hall.count(READIES));
            due("ended then", t, hall.count(ENDED));
            hall.run(1);
        }
        due("none is alive", 0, hall.count(ALIVE));
        due("all have ended", 5, hall.count(ENDED));
    }

    /** Promise 13: "IllegalArgumentException for others." */
    void countOutside() {
        ThreadHall hall = new ThreadHall();
        for (int wrong : outside(8)) {
            dueIllegalArgument("count " + wrong, () -> hall.count(wrong));
        }
        due("the last", 0, hall.count(7));
    }

    /** A call that is refused changes nothing of what can be told, whatever goes on. */
    void refusedCallsChangeNothing() {
        ThreadHall hall = everyKind();
        int[] before = told(hall);
        Runnable[] wrong = {() -> hall.add(5, PASS, 0, 0), () -> hall.add(4, 21, 0, 0), () -> hall.add(4, SET, 4, 0),
            () -> hall.add(4, MOVE, 0, 4), () -> hall.clear(5), () -> hall.start(5), () -> hall.run(0),
            () -> hall.run(41), () -> hall.interrupt(5), () -> hall.slice(0), () -> hall.slice(21),
            () -> hall.global(4, 9), () -> hall.special(0, 4), () -> hall.look(0, 10), () -> hall.lock(3, 0),
            () -> hall.count(8)};
        for (Runnable call : wrong) {
            dueIllegalArgument("a wrong argument", call);
        }
        dueIllegalState("add to one that is alive", () -> hall.add(0, PASS, 0, 0));
        dueIllegalState("clear one that is alive", () -> hall.clear(0));
        dueOutOfBounds("said", () -> hall.said(0));
        dueSame("refused calls", before, told(hall));
        due("the slice is as before", 4, hall.slice(4));
        due("so is the program of 4", 0, hall.clear(4));
        due("and that of 0, which goes on", 2, hall.run(1));
    }

    /** What only tells changes nothing: the same questions have the same answers. */
    void askingChangesNothing() {
        ThreadHall hall = everyKind();
        dueSame("asking", told(hall), told(hall));
    }
}
