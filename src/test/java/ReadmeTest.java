/** The examples of README.md, line by line, so that they stay true. */
final class ReadmeTest extends Hall {
    public static void main(String[] args) {
        new ReadmeTest().runAll();
    }

    void joining() {
        ThreadHall hall = new ThreadHall();
        hall.add(0, 12, 1, 2);
        hall.add(0, 18, 2, 0);
        hall.add(1, 0, 0, 42);
        hall.add(1, 19, 0, 0);
        hall.start(0);
        hall.start(1);
        due("run(10)", 4, hall.run(10));
        due("said(0)", 42, hall.said(0));
    }

    void interrupting() {
        ThreadHall hall = new ThreadHall();
        hall.add(0, 14, 3, 0);
        hall.add(0, 5, 0, 0);
        hall.add(0, 8, 1, 0);
        hall.add(0, 18, 3, 0);
        hall.start(0);
        due("run(40)", 3, hall.run(40));
        due("look(0, 0)", ThreadHall.WAITING, hall.look(0, 0));
        due("interrupt(0)", 1, hall.interrupt(0));
        due("run(1)", 1, hall.run(1));
        due("said(0)", 7, hall.said(0));
        due("lock(0, 0)", -1, hall.lock(0, 0));
    }
}
