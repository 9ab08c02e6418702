/** The edges that INSTRUCTIONS 8 to 13 name, by which THREADS meet; above each test stand the words it is about. */
final class EdgesOfMeetingsTest extends Hall {
    public static void main(String[] args) {
        new EdgesOfMeetingsTest().runAll();
    }

    /** "8 WAIT c m: it must have m (else ERROR 3)" */
    void waitWithoutTheLock() {
        ThreadHall hall = new ThreadHall();
        hall.slice(20);
        loadAndStart(hall, 0, op(LOCK, 0), op(LOCK, 0), op(PASS), op(PASS));
        loadAndStart(hall, 1, op(LOCK, 1), op(HANDLE, 3), op(WAIT, 1, 0), op(SAY, 3), op(PASS));
        loadAndStart(hall, 2, op(WAIT, 2, 2));
        loadAndStart(hall, 3, op(LOCK, 2), op(UNLOCK, 2), op(WAIT, 2, 2));
        hall.run(4);
        dueSaid("another has it", hall, 3);
        due("it does not wait", ThreadHall.READY, hall.look(1, STATE));
        due("that one has it as often as before", 2, hall.lock(0, OFTEN));
        due("it has the one it had", 1, hall.lock(1, OWNER));
        due("none ever had it", -3, hall.look(2, RESULT));
        due("it has it no more", -3, hall.look(3, RESULT));
        due("no row", 0, hall.lock(1, CONDITION_ROW) + hall.lock(2, CONDITION_ROW));
    }

    /** "it has it no more, however often it had it" and "has it as often as before" */
    void waitHoweverOften() {
        ThreadHall hall = alone(op(LOCK, 1), op(IFZERO, 0, 0), op(WAIT, 0, 1), op(PASS), op(PASS));
        hall.run(5);
        due("fifty times", 50, hall.lock(1, OFTEN));
        hall.global(0, 1);
        due("lock, ifzero, wait", 3, hall.run(40));
        due("no more", 0, hall.lock(1, OFTEN));
        due("by none", -1, hall.lock(1, OWNER));
        loadAndStart(hall, 1, op(LOCK, 1), op(TELL, 0), op(PASS), op(UNLOCK, 1));
        hall.run(1);
        due("the teller has it once", 1, hall.lock(1, OFTEN));
        due("told, it is locking", ThreadHall.LOCKING, hall.look(0, STATE));
        hall.run(1);
        due("as often as before", 51, hall.lock(1, OFTEN));
        due("by the one that was told", 0, hall.lock(1, OWNER));
    }

    /** "it has it no more": of the other LOCKS that it has it keeps each. */
    void waitKeepsOtherLocks() {
        ThreadHall hall = alone(op(LOCK, 0), op(LOCK, 1), op(LOCK, 1), op(LOCK, 2), op(WAIT, 0, 0));
        hall.run(1);
        due("given away", -1, hall.lock(0, OWNER));
        due("kept", 0, hall.lock(1, OWNER));
        due("kept twice", 2, hall.lock(1, OFTEN));
        due("kept, too", 0, hall.lock(2, OWNER));
    }

    /** "and is WAITING, behind others in the row of c": the row has room for all THREADS. */
    void allFiveWait() {
        ThreadHall hall = new ThreadHall();
        for (int t : new int[] {3, 1, 4, 0, 2}) {
            loadAndStart(hall, t, op(LOCK, 0), op(WAIT, 2, 0), op(BIND, 0, t), op(SAY, 0), op(TELL, 2));
            hall.run(1);
        }
        due("the row", 5, hall.lock(2, CONDITION_ROW));
        due("all are alive", 5, hall.count(ALIVE));
        due("none is ready", 0, hall.run(40));
        hall.interrupt(3);
        due("out of it", 4, hall.lock(2, CONDITION_ROW));
        hall.run(40);
        due("it was the first, and tells none", 4, hall.lock(2, CONDITION_ROW));
        hall.clear(3);
        loadAndStart(hall, 3, op(TELL, 2));
        hall.run(40);
        dueSaid("each tells the next in the row", hall, 1, 4, 0, 2);
    }

    /** "told, it goes for m as by LOCK": free, it has it at once; else it is behind others. */
    void toldAsByLock() {
        ThreadHall free = alone(op(LOCK, 0), op(LOCK, 0), op(WAIT, 0, 0), op(PASS), op(PASS));
        loadAndStart(free, 1, op(TELL, 0), op(PASS));
        free.run(2);
        due("free: ready", ThreadHall.READY, free.look(0, STATE));
        due("free: had twice", 2, free.lock(0, OFTEN));
        ThreadHall had = alone(op(LOCK, 0), op(LOCK, 0), op(WAIT, 0, 0), op(SET, 1, 1), op(SAY, 1));
        loadAndStart(had, 1, op(LOCK, 0), op(PASS), op(TELL, 0), op(UNLOCK, 0));
        loadAndStart(had, 2, op(LOCK, 0), op(PASS), op(SET, 1, 2), op(SAY, 1));
        had.run(4);
        due("had: 2 is before it", 2, had.lock(0, OWNER));
        due("had: locking", ThreadHall.LOCKING, had.look(0, STATE));
        had.run(40);
        dueSaid("had: in the order of the row", had, 2, 1);
    }

    /** "9 TELL c: the first of the row of c is told." where there is none, one, or several */
    void tellNoneOneOrSeveral() {
        ThreadHall none = alone(op(TELL, 0), op(TELL, 0), op(LOCK, 0), op(WAIT, 0, 0));
        due("none: all are done", 4, none.run(40));
        due("none: it is not kept for later ones", ThreadHall.WAITING, none.look(0, STATE));
        ThreadHall several = new ThreadHall();
        for (int t : new int[] {2, 0, 1}) {
            loadAndStart(several, t, op(LOCK, t), op(WAIT, 1, t), op(PASS), op(PASS));
            several.run(1);
        }
        loadAndStart(several, 3, op(TELL, 1), op(TELL, 0), op(PASS), op(TELL, 1), op(TELL, 1), op(PASS));
        several.run(1);
        due("several: one is told", 2, several.lock(1, CONDITION_ROW));
        due("several: the first", ThreadHall.READY, several.look(2, STATE));
        due("several: not the second", ThreadHall.WAITING, several.look(0, STATE));
        due("several: not the third", ThreadHall.WAITING, several.look(1, STATE));
        several.run(2);
        due("one: none is left", 0, several.lock(1, CONDITION_ROW));
    }

    /** "10 TELLALL c: all of them, one after the other." where there is none, or all others */
    void tellAllOfNoneOrFour() {
        ThreadHall none = alone(op(TELLALL, 0), op(LOCK, 0), op(WAIT, 0, 0));
        due("none: all are done", 3, none.run(40));
        due("none: it is not kept for later ones", ThreadHall.WAITING, none.look(0, STATE));
        ThreadHall four = new ThreadHall();
        for (int t : new int[] {3, 1, 4, 0}) {
            loadAndStart(four, t, op(LOCK, 0), op(WAIT, 0, 0), op(BIND, 0, t), op(SAY, 0));
            four.run(1);
        }
        loadAndStart(four, 2, op(TELLALL, 0));
        due("four: one instruction", 1, four.run(1));
        due("four: none is left", 0, four.lock(0, CONDITION_ROW));
        due("four: the first has it", 3, four.lock(0, OWNER));
        due("four: three are in the row", 3, four.lock(0, LOCK_ROW));
        four.run(40);
        dueSaid("four: in the order of the row", four, 3, 1, 4, 0);
    }

    /** "11 START t: t, which must be NEW or OVER (else ERROR 4)" */
    void startOfEveryKind() {
        for (int t = 0; t < 4; t++) {
            ThreadHall hall = everyKind();
            int stands = hall.look(t, STATE);
            loadAndStart(hall, 4, op(HANDLE, 2), op(START, t), op(SAY, 3), op(PASS));
            hall.run(1);
            dueSaid(t + " is alive", hall, 4);
            due(t + " stands as before", stands, hall.look(t, STATE));
            due(t + " has started once", 1, hall.look(t, STARTS));
        }
        ThreadHall hall = alone(op(HANDLE, 3), op(START, 1), op(START, 0), op(SAY, 3), op(PASS), op(START, 1));
        hall.run(1);
        dueSaid("itself", hall, 4);
        due("one that is new", ThreadHall.READY, hall.look(1, STATE));
        hall.run(2);
        due("one that is over", ThreadHall.READY, hall.look(1, STATE));
        due("it starts again", 2, hall.look(1, STARTS));
    }

    /** "is READY at place 0, without bindings, a handler, hooks, or an interrupt" */
    void startAtPlaceZero() {
        ThreadHall hall = alone(op(BIND, 0, 1), op(HANDLE, 9), op(HOOK, 1, 1), op(INTERRUPT, 0));
        hall.run(40);
        loadAndStart(hall, 1, op(START, 0));
        hall.run(1);
        int[] due = {ThreadHall.READY, 0, 0, 0, 0, 0, 24, 0, 2, 0};
        for (int what = 0; what < due.length; what++) {
            due("look " + what, due[what], hall.look(0, what));
        }
    }

    /** "12 JOIN t s: if t is OVER s is its result" */
    void joinOneThatIsOver() {
        ThreadHall hall = alone(op(JOIN, 1, 2), op(SAY, 2), op(JOIN, 1, 2), op(SAY, 2));
        loadAndStart(hall, 1, op(BIND, 0, -4), op(END, 0));
        hall.run(1);
        due("alive at first", ThreadHall.JOINING, hall.look(0, STATE));
        hall.run(1);
        due("it goes on to its end", 3, hall.run(1));
        dueSaid("the result, each time", hall, -4, -4);
        due("none joins", 0, hall.look(1, JOINERS));
    }

    /** "if it is NEW, or itself, ERROR 5" */
    void joinOneThatIsNewOrItself() {
        ThreadHall hall = new ThreadHall();
        hall.slice(20);
        loadAndStart(hall, 0, op(SET, 0, 9), op(HANDLE, 3), op(JOIN, 4, 0), op(SAY, 3), op(HANDLE, 6), op(JOIN, 0, 0),
            op(SAY, 3), op(SAY, 0), op(JOIN, 0, 0));
        hall.run(40);
        dueSaid("new, itself, and nothing is set", hall, 5, 5, 9);
        due("without a handler", -5, hall.look(0, RESULT));
        due("none joins", 0, hall.look(0, JOINERS) + hall.look(4, JOINERS));
        due("errors", 3, hall.count(ERRORS));
    }

    /** "else it is JOINING": whatever kind of ALIVE it is. */
    void joinOneOfEveryKind() {
        for (int t = 0; t < 4; t++) {
            ThreadHall hall = everyKind();
            int joiners = hall.look(t, JOINERS);
            loadAndStart(hall, 4, op(JOIN, t, 0));
            due("until it joins", 1, hall.run(1));
            due("joining " + t, ThreadHall.JOINING, hall.look(4, STATE));
            due("how many join " + t, joiners + 1, hall.look(t, JOINERS));
            due("no error", 0, hall.count(ERRORS));
        }
    }

    /** "if it is NEW" and "if t is OVER": one that was OVER and STARTED again is neither. */
    void joinOneThatStartedAgain() {
        ThreadHall hall = new ThreadHall();
        loadAndStart(hall, 1, op(ADD, 0, 1), op(PASS), op(END, 0));
        hall.run(2);
        hall.start(1);
        loadAndStart(hall, 0, op(JOIN, 1, 2), op(SAY, 2));
        hall.run(1);
        hall.run(1);
        due("joining", ThreadHall.JOINING, hall.look(0, STATE));
        hall.run(40);
        dueSaid("its second result", hall, 2);
    }

    /** "when t is OVER s is its result, and it goes on": all others may JOIN one. */
    void allOthersJoin() {
        ThreadHall hall = new ThreadHall();
        for (int t = 1; t < 5; t++) {
            loadAndStart(hall, t, op(BIND, 0, t), op(JOIN, 0, 0), op(SAY, 0));
        }
        loadAndStart(hall, 0, op(PASS), op(BIND, 0, 7), op(END, 0));
        hall.run(5);
        due("all but itself", 4, hall.look(0, JOINERS));
        due("it alone is ready", 1, hall.count(READIES));
        hall.run(1);
        due("all others are ready", 4, hall.count(READIES));
        due("none joins", 0, hall.look(0, JOINERS));
        hall.run(40);
        dueSaid("each has the result", hall, 7, 7, 7, 7);
    }

    /** "13 INTERRUPT t: if t is ALIVE": one that is not stays as it is, and that is no error. */
    void interruptOneThatIsNotAlive() {
        ThreadHall hall = new ThreadHall();
        hall.start(1);
        hall.run(1);
        loadAndStart(hall, 0, op(PASS), op(INTERRUPT, 1), op(INTERRUPT, 2), op(PASS), op(PASS));
        hall.run(1);
        due("both are done", 3, hall.run(1));
        due("over", ThreadHall.OVER, hall.look(1, STATE));
        due("new", ThreadHall.NEW, hall.look(2, STATE));
        due("none is marked", 0, hall.look(0, MARKED) + hall.look(1, MARKED) + hall.look(2, MARKED));
        due("no error", 0, hall.count(ERRORS));
        hall.clear(2);
        loadAndStart(hall, 2, op(LOCK, 0), op(WAIT, 0, 0));
        hall.run(1);
        due("nor later", ThreadHall.WAITING, hall.look(2, STATE));
    }

    /** "if it is WAITING or JOINING it is interrupted (see below), else it is marked" */
    void interruptOneOfEveryKind() {
        ThreadHall hall = everyKind();
        loadAndStart(hall, 4, op(INTERRUPT, 0), op(INTERRUPT, 1), op(INTERRUPT, 2), op(INTERRUPT, 3), op(INTERRUPT, 4),
            op(PASS));
        hall.slice(20);
        hall.run(1);
        int[] stands = {ThreadHall.READY, ThreadHall.LOCKING, ThreadHall.READY, ThreadHall.READY, ThreadHall.READY};
        int[] marked = {1, 1, 0, 0, 1};
        for (int t = 0; t < 5; t++) {
            due("how " + t + " stands", stands[t], hall.look(t, STATE));
            due("whether " + t + " is marked", marked[t], hall.look(t, MARKED));
        }
        due("the row of the lock", 1, hall.lock(0, LOCK_ROW));
        due("the row of the condition", 0, hall.lock(0, CONDITION_ROW));
        due("none joins", 0, hall.look(0, JOINERS));
    }

    /** "that is looked at when it would begin to WAIT or JOIN (which are not done then)" */
    void markedOnesDoNotWaitOrJoin() {
        ThreadHall waits = alone(op(LOCK, 0), op(LOCK, 0), op(HANDLE, 4), op(WAIT, 0, 0), op(PASS), op(WAIT, 0, 0));
        waits.interrupt(0);
        waits.run(1);
        due("error 7", 7, waits.special(0, 3));
        due("it has the lock as before", 2, waits.lock(0, OFTEN));
        due("no row", 0, waits.lock(0, CONDITION_ROW));
        due("ready", ThreadHall.READY, waits.look(0, STATE));
        waits.run(1);
        due("the mark is gone, so it waits", ThreadHall.WAITING, waits.look(0, STATE));
        ThreadHall joins = alone(op(HANDLE, 2), op(JOIN, 1, 0), op(PASS), op(JOIN, 1, 0));
        loadAndStart(joins, 1, op(PASS), op(GO, 0));
        joins.interrupt(0);
        joins.run(1);
        due("error 7", 7, joins.special(0, 3));
        due("none joins", 0, joins.look(1, JOINERS));
        joins.run(2);
        due("the mark is gone, so it joins", ThreadHall.JOINING, joins.look(0, STATE));
    }

    /** "else it is marked": once, however often; and all but WAIT and JOIN is done as ever. */
    void markedTwiceIsMarkedOnce() {
        ThreadHall hall = alone(op(INTERRUPT, 0), op(INTERRUPT, 0), op(LOCK, 0), op(TRY, 1, 1), op(PASS), op(HANDLE, 7),
            op(WAIT, 0, 0), op(WAIT, 0, 0));
        hall.run(1);
        due("marked", 1, hall.look(0, MARKED));
        due("it has the lock", 0, hall.lock(0, OWNER));
        due("and the other", 0, hall.lock(1, OWNER));
        hall.run(1);
        due("one error", 1, hall.count(ERRORS));
        due("then it waits", ThreadHall.WAITING, hall.look(0, STATE));
    }
}
