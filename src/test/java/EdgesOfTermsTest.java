/** The edges that "What it is" and the start of "Terms" name; above each test stand the words it is about. */
final class EdgesOfTermsTest extends Hall {
    public static void main(String[] args) {
        new EdgesOfTermsTest().runAll();
    }

    /** "An object is used for at most 512 calls after it has been made" */
    void the512thCallIsAnsweredToo() {
        ThreadHall hall = new ThreadHall();
        loadAndStart(hall, 0, op(SAY, 0), op(ADD, 0, 1), op(GO, 0));
        hall.slice(20);
        for (int call = 6; call < 510; call++) {
            due("call " + call, 800, hall.run(40));
        }
        due("call 510", 504 * 800, hall.look(0, DONE));
        due("call 511", 504 * 800 / 3, hall.count(SAIDS));
        due("call 512", 39, hall.said(39));
    }

    /** "THREADS 0..4 have a program of at most 24 INSTRUCTIONS (op, a, b), numbered from 0" */
    void eachThreadHasRoomFor24() {
        ThreadHall hall = new ThreadHall();
        for (int t = 0; t < 5; t++) {
            int itself = t;
            due("the first", 1, hall.add(t, GO, 23, 0));
            for (int k = 2; k <= 23; k++) {
                due("between", k, hall.add(t, SAY, 0, 0));
            }
            due("the last", 24, hall.add(t, ADD, 0, 1));
            dueOutOfBounds("one more", () -> hall.add(itself, ADD, 0, 1));
            hall.start(t);
            due("it begins at 0", 0, hall.look(t, PLACE));
        }
        due("the first and the last of each", 10, hall.run(40));
        due("number 23 is the last", 5, hall.special(0, 0));
        dueSaid("none between", hall);
    }

    /** "THREADS 0..4 have a program": it may be empty, and what it was written over with is all there is. */
    void aProgramIsEmptyOrFull() {
        ThreadHall hall = new ThreadHall();
        due("empty at first", 0, hall.clear(0));
        for (int k = 0; k < 24; k++) {
            hall.add(0, SAY, 0, 0);
        }
        due("full", 24, hall.clear(0));
        due("room again", 1, hall.add(0, ADD, 1, 3));
        hall.start(0);
        due("nothing of the old one is left", 1, hall.run(40));
        due("but what was added", 3, hall.special(0, 1));
    }

    /** "A THREAD that is not NEW or OVER is ALIVE." */
    void fourWaysToBeAlive() {
        ThreadHall hall = everyKind();
        int[] stands = {ThreadHall.READY, ThreadHall.LOCKING, ThreadHall.WAITING, ThreadHall.JOINING, ThreadHall.NEW};
        for (int t = 0; t < 5; t++) {
            due("how " + t + " stands", stands[t], hall.look(t, STATE));
        }
        due("all but the new one", 4, hall.count(ALIVE));
        hall.start(4);
        due("all", 5, hall.count(ALIVE));
        hall.run(1);
        due("it is over", ThreadHall.OVER, hall.look(4, STATE));
        due("all but the one that is over", 4, hall.count(ALIVE));
    }

    /** "SPECIALS 0..3 are ints: each has a global value (at first 0)" */
    void aSpecialIsAnyInt() {
        ThreadHall hall = new ThreadHall();
        for (int s = 0; s < 4; s++) {
            due("at first", 0, hall.special(0, s));
            for (int v : new int[] {Integer.MIN_VALUE, -1, 1, Integer.MAX_VALUE}) {
                hall.global(s, v);
                due("special " + s, v, hall.special(4, s));
            }
        }
    }

    /** "in each THREAD a row of bindings (12 at most together)" */
    void twelveBindingsTogetherInEachThread() {
        ThreadHall hall = new ThreadHall();
        hall.slice(12);
        for (int k = 0; k < 13; k++) {
            hall.add(0, BIND, 2, k);
            hall.add(1, BIND, k % 4, k);
        }
        hall.start(0);
        hall.start(1);
        due("twelve in each", 24, hall.run(2));
        due("all of one", 12, hall.look(0, BINDINGS));
        due("of several together", 12, hall.look(1, BINDINGS));
        due("its latest", 11, hall.special(0, 2));
        for (int s = 0; s < 4; s++) {
            due("the latest of " + s, 8 + s, hall.special(1, s));
        }
        due("no error up to there", 0, hall.count(ERRORS));
        due("one more in each", 2, hall.run(2));
        due("13 of one", -1, hall.look(0, RESULT));
        due("13 together", -1, hall.look(1, RESULT));
    }

    /** "what is read or set in a THREAD is its latest binding of that SPECIAL, or, if it has none, the global value" */
    void boundToZeroIsBound() {
        ThreadHall hall = alone(op(SET, 0, 5), op(BIND, 0, 0), op(SAY, 0), op(IFZERO, 0, 5), op(SAY, 0), op(ADD, 0, 2),
            op(SAY, 0), op(UNBIND, 0), op(SAY, 0));
        hall.run(1);
        dueSaid("the binding, then the global value", hall, 0, 2, 5);
    }

    /** "or, if it has none, the global value": also one that was changed behind the binding. */
    void theLastBindingGone() {
        ThreadHall hall = alone(op(BIND, 1, 5), op(PASS), op(UNBIND, 1), op(SAY, 1), op(SET, 1, 7), op(PASS));
        hall.run(1);
        due("global", 0, hall.global(1, 6));
        due("bound", 5, hall.special(0, 1));
        hall.run(1);
        dueSaid("the global value", hall, 6);
        due("set for all", 7, hall.special(2, 1));
    }

    /** "LOCKS 0..2 are had by none or one THREAD, so and so often." */
    void aLockIsHadVeryOften() {
        ThreadHall hall = alone(op(LOCK, 2), op(IFZERO, 0, 0), op(UNLOCK, 2), op(PASS), op(GO, 2));
        due("as long as it goes on", 800, hall.run(40));
        due("400 times", 400, hall.lock(2, OFTEN));
        due("by 0", 0, hall.lock(2, OWNER));
        hall.global(0, 1);
        for (int k = 0; k < 10; k++) {
            hall.run(40);
        }
        due("once is left", 1, hall.lock(2, OFTEN));
        due("still by 0", 0, hall.lock(2, OWNER));
        hall.run(1);
        due("none is left", 0, hall.lock(2, OFTEN));
        due("by none", -1, hall.lock(2, OWNER));
    }

    /** "LOCKS 0..2 are had by none or one THREAD": one may have them all, and no other any of them then. */
    void oneHasAllLocks() {
        ThreadHall hall = alone(op(LOCK, 0), op(LOCK, 1), op(LOCK, 2), op(PASS), op(PASS));
        for (int t = 1; t < 4; t++) {
            loadAndStart(hall, t, op(LOCK, t - 1));
        }
        hall.run(4);
        for (int m = 0; m < 3; m++) {
            due("who has " + m, 0, hall.lock(m, OWNER));
            due("how often " + m, 1, hall.lock(m, OFTEN));
            due("the row of " + m, 1, hall.lock(m, LOCK_ROW));
        }
    }
}
