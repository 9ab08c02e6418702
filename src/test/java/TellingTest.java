/** Promises 10, 12 and 13: look, said and count. */
final class TellingTest extends Hall {
    public static void main(String[] args) {
        new TellingTest().runAll();
    }

    void lookAtOneThatRuns() {
        ThreadHall hall = alone(op(BIND, 0, 1), op(BIND, 1, 1), op(HOOK, 0, 1), op(HANDLE, 7), op(INTERRUPT, 0),
            op(PASS), op(SET, 0, 3), op(END, 0));
        loadAndStart(hall, 1, op(JOIN, 0, 0));
        hall.run(2);
        int[] due = {ThreadHall.READY, 6, 0, 2, 1, 1, 7, 6, 1, 1};
        for (int what = 0; what < due.length; what++) {
            due("running: look " + what, due[what], hall.look(0, what));
        }
        hall.run(1);
        int[] then = {ThreadHall.OVER, 8, 3, 0, 0, 0, 24, 8, 1, 0};
        for (int what = 0; what < then.length; what++) {
            due("over: look " + what, then[what], hall.look(0, what));
        }
    }

    void lookAtPlaces() {
        ThreadHall hall = new ThreadHall();
        hall.slice(1);
        loadAndStart(hall, 0, op(SET, 0, 1), op(IFZERO, 0, 0), op(IFZERO, 1, 4), op(PASS), op(GO, 1));
        for (int place : new int[] {1, 2, 4, 1, 2}) {
            hall.run(1);
            due("place", place, hall.look(0, PLACE));
        }
    }

    void saidInTheOrderOfAll() {
        ThreadHall hall = new ThreadHall();
        hall.slice(2);
        loadAndStart(hall, 0, op(BIND, 0, 1), op(SAY, 0), op(SET, 0, 2), op(SAY, 0));
        loadAndStart(hall, 1, op(BIND, 0, -1), op(SAY, 0), op(SET, 0, -2), op(SAY, 0));
        hall.run(40);
        dueSaid("in turns", hall, 1, -1, 2, -2);
    }

    void counts() {
        ThreadHall hall = alone(op(LOCK, 0), op(PASS), op(SAY, 0), op(UNBIND, 0));
        loadAndStart(hall, 1, op(LOCK, 0));
        loadAndStart(hall, 2, op(JOIN, 1, 0));
        loadAndStart(hall, 3, op(LOCK, 1), op(WAIT, 0, 1));
        hall.run(4);
        int[] due = {0, 6, 4, 4, 1, 0, 3, 0};
        for (int what = 0; what < due.length; what++) {
            due("count " + what, due[what], hall.count(what));
        }
        hall.run(1);
        int[] then = {1, 8, 5, 3, 1, 1, 0, 1};
        for (int what = 0; what < then.length; what++) {
            due("then count " + what, then[what], hall.count(what));
        }
        hall.run(40);
        int[] last = {1, 8, 7, 1, 0, 1, 2, 3};
        for (int what = 0; what < last.length; what++) {
            due("at last count " + what, last[what], hall.count(what));
        }
    }

    void endedCountsEveryEnding() {
        ThreadHall hall = new ThreadHall();
        for (int k = 1; k <= 3; k++) {
            hall.start(2);
            hall.run(1);
            due("ended", k, hall.count(ENDED));
            due("started", k, hall.look(2, STARTS));
            due("turns", k, hall.count(TURNS));
        }
    }
}
