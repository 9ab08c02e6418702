import java.util.ArrayList;
import java.util.List;

/**
 * The document said once more, in the order of its words and with the Java library, so that the class can
 * be held against it. It shares no code with the class, nor how the state is kept; only the readings that
 * README.md lists.
 */
final class Words {
    private static final int NEW = 0, READY = 1, LOCKING = 2, WAITING = 3, JOINING = 4, OVER = 5;

    /** An ERROR of the document, thrown by an INSTRUCTION. */
    private static final class Fault extends Exception {
        private static final long serialVersionUID = 1L;
        final int number;

        Fault(int number) {
            this.number = number;
        }
    }

    private record Pair(int special, int value) { }

    /** One that goes for a LOCK, and how often it will have it. */
    private record Wish(One who, int often) { }

    /** One that is WAITING: which LOCK it goes for when it is told, and how often it had it. */
    private record Sleeper(One who, Key key, int often) { }

    private record Joiner(One who, int special) { }

    private static final class One {
        final List<int[]> program = new ArrayList<>();
        final List<Pair> bindings = new ArrayList<>();
        final List<Pair> hooks = new ArrayList<>();
        final List<Joiner> joiners = new ArrayList<>();
        int stands = NEW;
        int place;
        int result;
        Integer handler;
        boolean mark;
        boolean toThrow;
        int done;
        int started;

        boolean alive() {
            return stands != NEW && stands != OVER;
        }
    }

    private static final class Key {
        final List<Wish> row = new ArrayList<>();
        One owner;
        int often;
    }

    private final One[] ones = {new One(), new One(), new One(), new One(), new One()};
    private final Key[] keys = {new Key(), new Key(), new Key()};
    private final List<List<Sleeper>> conditions =
        List.of(new ArrayList<>(), new ArrayList<>(), new ArrayList<>());
    private final int[] globals = new int[4];
    private final List<Integer> said = new ArrayList<>();
    private int slice = 4;
    private int last = -1;
    private int turns;
    private int instructions;
    private int errors;
    private int ended;

    int add(int t, int op, int a, int b) {
        argument(t, 5);
        argument(op, 21);
        // Letter by letter as the document writes them: s, v, t, m, c, p.
        String kinds = "sv sv ss sv s m m ms cm c c t ts t p sv p sp s s -".split(" ")[op];
        operand(kinds, 0, a);
        operand(kinds, 1, b);
        state(ones[t]);
        if (ones[t].program.size() == 24) {
            throw new IndexOutOfBoundsException();
        }
        ones[t].program.add(new int[] {op, a, b});
        return ones[t].program.size();
    }

    int clear(int t) {
        argument(t, 5);
        state(ones[t]);
        int had = ones[t].program.size();
        ones[t].program.clear();
        return had;
    }

    int start(int t) {
        argument(t, 5);
        return started(ones[t]) ? 1 : 0;
    }

    int run(int n) {
        argument(n - 1, 40);
        int before = instructions;
        boolean goesOn = true;
        for (int k = 0; k < n && goesOn; k++) {
            goesOn = turn();
        }
        return instructions - before;
    }

    int interrupt(int t) {
        argument(t, 5);
        return interrupted(ones[t]) ? 1 : 0;
    }

    int slice(int n) {
        argument(n - 1, 20);
        int was = slice;
        slice = n;
        return was;
    }

    int global(int s, int v) {
        argument(s, 4);
        int was = globals[s];
        globals[s] = v;
        return was;
    }

    int special(int t, int s) {
        argument(t, 5);
        argument(s, 4);
        return ones[t].alive() ? get(ones[t], s) : globals[s];
    }

    int look(int t, int what) {
        argument(t, 5);
        argument(what, 10);
        One one = ones[t];
        int[] answers = {one.stands, one.place, one.result, one.bindings.size(), one.hooks.size(),
            one.mark ? 1 : 0, one.handler == null ? 24 : one.handler, one.done, one.started, one.joiners.size()};
        return answers[what];
    }

    int lock(int m, int what) {
        argument(m, 3);
        argument(what, 4);
        Key key = keys[m];
        int owner = key.owner == null ? -1 : List.of(ones).indexOf(key.owner);
        int[] answers = {owner, key.often, key.row.size(), conditions.get(m).size()};
        return answers[what];
    }

    int said(int k) {
        if (k < 0 || k >= Math.min(40, said.size())) {
            throw new IndexOutOfBoundsException();
        }
        return said.get(k);
    }

    int count(int what) {
        argument(what, 8);
        int alive = 0;
        int ready = 0;
        for (One one : ones) {
            alive += one.alive() ? 1 : 0;
            ready += one.stands == READY ? 1 : 0;
        }
        int[] answers = {said.size(), instructions, turns, alive, ready, errors, last, ended};
        return answers[what];
    }

    private static void argument(int value, int values) {
        if (value < 0 || value >= values) {
            throw new IllegalArgumentException();
        }
    }

    private static void operand(String kinds, int which, int value) {
        char kind = which < kinds.length() ? kinds.charAt(which) : '-';
        if (kind != '-' && kind != 'v') {
            argument(value, kind == 's' ? 4 : kind == 't' ? 5 : kind == 'p' ? 25 : 3);
        }
    }

    private static void state(One one) {
        if (one.alive()) {
            throw new IllegalStateException();
        }
    }

    private static Pair latest(One one, int s) {
        Pair found = null;
        for (Pair binding : one.bindings) {
            found = binding.special == s ? binding : found;
        }
        return found;
    }

    private static int lastIndex(List<Pair> pairs, Pair which) {
        for (int k = pairs.size() - 1; k >= 0; k--) {
            if (pairs.get(k) == which) {
                return k;
            }
        }
        return -1;
    }

    private int get(One one, int s) {
        Pair binding = latest(one, s);
        return binding == null ? globals[s] : binding.value;
    }

    private void set(One one, int s, int v) {
        Pair binding = latest(one, s);
        if (binding == null) {
            globals[s] = v;
        } else {
            one.bindings.set(lastIndex(one.bindings, binding), new Pair(s, v));
        }
    }

    private boolean turn() {
        for (int k = 1; k <= 5; k++) {
            int t = Math.floorMod(last + k, 5);
            if (ones[t].stands == READY) {
                last = t;
                turns++;
                turnOf(ones[t]);
                return true;
            }
        }
        return false;
    }

    private void turnOf(One one) {
        if (one.toThrow) {
            one.toThrow = false;
            thrown(one, 7);
        }
        int left = slice;
        while (left > 0 && one.stands == READY) {
            if (one.place >= one.program.size()) {
                end(one, 0);
                return;
            }
            int[] next = one.program.get(one.place);
            one.place++;
            one.done++;
            instructions++;
            left = next[0] == 20 ? 0 : left - 1;
            try {
                act(one, next[0], next[1], next[2]);
            } catch (Fault fault) {
                thrown(one, fault.number);
            }
        }
    }

    private static void must(boolean holds, int number) throws Fault {
        if (!holds) {
            throw new Fault(number);
        }
    }

    private void act(One one, int op, int a, int b) throws Fault {
        if (op == 0) {
            set(one, a, b);
        } else if (op == 1) {
            set(one, a, get(one, a) + b);
        } else if (op == 2) {
            set(one, a, get(one, b));
        } else if (op == 3) {
            must(one.bindings.size() < 12, 1);
            one.bindings.add(new Pair(a, b));
        } else if (op == 4) {
            must(latest(one, a) != null, 2);
            one.bindings.remove(lastIndex(one.bindings, latest(one, a)));
        } else if (op == 5) {
            goFor(one, keys[a], 1);
        } else if (op == 6) {
            must(keys[a].owner == one, 3);
            keys[a].often--;
            passOnIfFree(keys[a]);
        } else if (op == 7) {
            boolean noneElse = keys[a].owner == null || keys[a].owner == one;
            if (noneElse) {
                goFor(one, keys[a], 1);
            }
            set(one, b, noneElse ? 1 : 0);
        } else if (op == 8) {
            sleep(one, conditions.get(a), keys[b]);
        } else if (op == 9) {
            if (!conditions.get(a).isEmpty()) {
                tell(conditions.get(a));
            }
        } else if (op == 10) {
            while (!conditions.get(a).isEmpty()) {
                tell(conditions.get(a));
            }
        } else if (op == 11) {
            must(started(ones[a]), 4);
        } else if (op == 12) {
            join(one, ones[a], b);
        } else if (op == 13) {
            interrupted(ones[a]);
        } else {
            actAlone(one, op, a, b);
        }
    }

    private void actAlone(One one, int op, int a, int b) throws Fault {
        if (op == 14) {
            one.handler = a == 24 ? null : Integer.valueOf(a);
        } else if (op == 15) {
            must(one.hooks.size() < 4, 6);
            one.hooks.add(new Pair(a, b));
        } else if (op == 16) {
            one.place = a;
        } else if (op == 17) {
            one.place = get(one, a) == 0 ? b : one.place;
        } else if (op == 18) {
            said.add(get(one, a));
        } else if (op == 19) {
            end(one, get(one, a));
        }
    }

    private static void goFor(One one, Key key, int often) {
        if (key.owner == null || key.owner == one) {
            key.owner = one;
            key.often += often;
            one.stands = READY;
        } else {
            key.row.add(new Wish(one, often));
            one.stands = LOCKING;
        }
    }

    private static void passOnIfFree(Key key) {
        if (key.often == 0) {
            key.owner = null;
            if (!key.row.isEmpty()) {
                Wish first = key.row.remove(0);
                goFor(first.who, key, first.often);
            }
        }
    }

    private static void sleep(One one, List<Sleeper> row, Key key) throws Fault {
        must(key.owner == one, 3);
        must(!one.mark, 7);
        row.add(new Sleeper(one, key, key.often));
        one.stands = WAITING;
        key.often = 0;
        passOnIfFree(key);
    }

    private static void tell(List<Sleeper> row) {
        Sleeper first = row.remove(0);
        goFor(first.who, first.key, first.often);
    }

    private static boolean started(One one) {
        if (one.alive()) {
            return false;
        }
        one.stands = READY;
        one.place = 0;
        one.bindings.clear();
        one.handler = null;
        one.hooks.clear();
        one.mark = false;
        one.toThrow = false;
        one.done = 0;
        one.started++;
        return true;
    }

    private void join(One one, One other, int s) throws Fault {
        if (other.stands == OVER) {
            set(one, s, other.result);
            return;
        }
        must(other.stands != NEW && other != one, 5);
        must(!one.mark, 7);
        other.joiners.add(new Joiner(one, s));
        one.stands = JOINING;
    }

    private boolean interrupted(One one) {
        if (!one.alive()) {
            return false;
        }
        if (one.stands == WAITING) {
            for (List<Sleeper> row : conditions) {
                for (Sleeper sleeper : List.copyOf(row)) {
                    if (sleeper.who == one) {
                        row.remove(sleeper);
                        one.toThrow = true;
                        goFor(one, sleeper.key, sleeper.often);
                    }
                }
            }
        } else if (one.stands == JOINING) {
            for (One other : ones) {
                other.joiners.removeIf(joiner -> joiner.who == one);
            }
            one.toThrow = true;
            one.stands = READY;
        } else {
            one.mark = true;
        }
        return true;
    }

    private void thrown(One one, int number) {
        errors++;
        one.mark = one.mark && number != 7;
        if (one.handler == null) {
            end(one, -number);
        } else {
            one.place = one.handler;
            one.handler = null;
            set(one, 3, number);
        }
    }

    private void end(One one, int result) {
        while (!one.hooks.isEmpty()) {
            Pair hook = one.hooks.remove(one.hooks.size() - 1);
            set(one, hook.special, get(one, hook.special) + hook.value);
        }
        one.bindings.clear();
        one.handler = null;
        one.mark = false;
        for (Key key : keys) {
            if (key.owner == one) {
                key.often = 0;
                passOnIfFree(key);
            }
        }
        for (Joiner joiner : one.joiners) {
            set(joiner.who, joiner.special, result);
            joiner.who.stands = READY;
        }
        one.joiners.clear();
        one.result = result;
        one.stands = OVER;
        ended++;
    }
}
