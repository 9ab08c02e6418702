import java.lang.reflect.Constructor;
import java.lang.reflect.Field;
import java.lang.reflect.Method;
import java.lang.reflect.Modifier;
import java.util.Set;
import java.util.TreeSet;

/** Promise 1, the constants and the face. */
final class NewObjectTest extends Hall {
    public static void main(String[] args) {
        new NewObjectTest().runAll();
    }

    void constants() {
        due("NEW", 0, ThreadHall.NEW);
        due("READY", 1, ThreadHall.READY);
        due("LOCKING", 2, ThreadHall.LOCKING);
        due("WAITING", 3, ThreadHall.WAITING);
        due("JOINING", 4, ThreadHall.JOINING);
        due("OVER", 5, ThreadHall.OVER);
    }

    void newThreads() {
        ThreadHall hall = new ThreadHall();
        for (int t = 0; t < 5; t++) {
            for (int what = 0; what < 10; what++) {
                due("new: look(" + t + ", " + what + ")", what == HANDLER ? 24 : 0, hall.look(t, what));
            }
            for (int s = 0; s < 4; s++) {
                due("new: special(" + t + ", " + s + ")", 0, hall.special(t, s));
            }
            due("new: clear(" + t + ")", 0, hall.clear(t));
        }
    }

    void newLocksAndCounts() {
        ThreadHall hall = new ThreadHall();
        for (int m = 0; m < 3; m++) {
            for (int what = 0; what < 4; what++) {
                due("new: lock(" + m + ", " + what + ")", what == OWNER ? -1 : 0, hall.lock(m, what));
            }
        }
        for (int what = 0; what < 8; what++) {
            due("new: count(" + what + ")", what == LAST ? -1 : 0, hall.count(what));
        }
        for (int s = 0; s < 4; s++) {
            due("new: global(" + s + ", 0)", 0, hall.global(s, 0));
        }
        dueOutOfBounds("new: said(0)", () -> hall.said(0));
        due("new: run(40)", 0, hall.run(40));
        due("new: turns after run", 0, hall.count(TURNS));
        due("new: slice(20)", 4, hall.slice(20));
    }

    void objectsAreApart() {
        ThreadHall one = alone(op(SET, 0, 5), op(LOCK, 0), op(SAY, 0), op(PASS));
        one.run(1);
        ThreadHall other = new ThreadHall();
        due("apart: special", 0, other.special(0, 0));
        due("apart: lock", -1, other.lock(0, OWNER));
        due("apart: said", 0, other.count(SAIDS));
        due("apart: program", 0, other.clear(0));
    }

    void onlyTheFaceIsVisible() {
        Set<String> visible = new TreeSet<>();
        for (Method method : ThreadHall.class.getDeclaredMethods()) {
            if (!Modifier.isPrivate(method.getModifiers())) {
                visible.add(method.getName() + method.getParameterCount());
            }
        }
        for (Field field : ThreadHall.class.getDeclaredFields()) {
            if (!Modifier.isPrivate(field.getModifiers())) {
                visible.add(field.getName());
            }
        }
        for (Constructor<?> constructor : ThreadHall.class.getDeclaredConstructors()) {
            visible.add("ThreadHall" + constructor.getParameterCount());
        }
        Set<String> face = new TreeSet<>(Set.of("NEW", "READY", "LOCKING", "WAITING", "JOINING", "OVER",
            "ThreadHall0", "add4", "clear1", "start1", "run1", "interrupt1", "slice1"));
        face.addAll(Set.of("global2", "special2", "look2", "lock2", "said1", "count1"));
        tally(face.equals(visible), "the face is " + visible + ", due is " + face);
        tally(Modifier.isFinal(ThreadHall.class.getModifiers()), "the class is not final");
    }
}
