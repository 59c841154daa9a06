import java.util.ArrayList;
import java.util.List;

/**
 * A house whose calls are kept. All that can be seen of it is looked at on new houses of the same past: an
 * object is good for 512 calls only, and a look must not change what is looked at.
 */
final class Tale {
    interface Call {
        long on(TaskHouse x);
    }

    interface Ask {
        boolean on(TaskHouse x);
    }

    private static final int MOST_CALLS = 512;
    /** More than any of the looks below needs on one house. */
    private static final int CALLS_FOR_LOOKS = 120;
    private static final int DONE = 2;
    private static final int NONE = TaskHouse.NONE;

    private final Check check;
    private final TaskHouse house = new TaskHouse();
    private final List<Call> past = new ArrayList<>();

    Tale(Check check) {
        this.check = check;
    }

    static Tale of(Check check, String text) {
        Tale x = new Tale(check);
        check.same("business() of '" + text + "'", x.tell(text) >= 0, true);
        return x;
    }

    /** A house with this business, persons of role 0 and these loads, and one run. */
    static Tale running(Check check, String text, int... loads) {
        Tale x = of(check, text);
        for (int load : loads) {
            x.call(h -> h.person(1, load));
        }
        x.call(TaskHouse::run);
        return x;
    }

    /** Six runs, 200 tasks less those left, and 48 of them open. */
    static Tale nearlyFull(Check check, int left) {
        Tale x = of(check, eightWays());
        x.call(h -> h.person(1, 9));
        for (int r = 0; r < 6; r++) {
            x.call(TaskHouse::run);
        }
        for (int t = 0; t < 152 - left; t++) {
            x.does(0, t, NONE, 0, 1);
        }
        x.is("tasks", 200 - left, h -> h.about(5));
        return x;
    }

    /** Eight ways at once, each of which brings a task for each one done. */
    static String eightWays() {
        return "both{" + fourWays('a') + "}{" + fourWays('e') + "}";
    }

    private static String fourWays(char from) {
        return "both{" + twoWays(from) + "}{" + twoWays((char) (from + 2)) + "}";
    }

    private static String twoWays(char from) {
        char next = (char) (from + 1);
        return "both{again a<1{do z" + from + " role0due1;}}{again a<1{do z" + next + " role0due1;}}";
    }

    long call(Call it) {
        past.add(it);
        if (past.size() > MOST_CALLS) {
            throw new IllegalStateException("an object is used for 512 calls at most");
        }
        return it.on(house);
    }

    void is(String what, long want, Call it) {
        check.same(what, call(it), want);
    }

    void is(String what, boolean want, Ask it) {
        is(what, want ? 1 : 0, x -> it.on(x) ? 1 : 0);
    }

    void sure(Ask... all) {
        for (Ask it : all) {
            is("a call that is taken", true, it);
        }
    }

    /** The call answers so, and nothing is done by it. */
    void idle(String what, long want, Call it) {
        List<Long> before = seen();
        is(what, want, it);
        check.same(what + ": nothing is done", seen().equals(before), true);
    }

    void none(String what, Call it) {
        idle(what, NONE, it);
    }

    void no(String what, Ask it) {
        idle(what, 0, x -> it.on(x) ? 1 : 0);
    }

    /** The answers for what = 0, 1 .. are these, and those beside them NONE. */
    void row(String what, java.util.function.IntFunction<Call> call, int... want) {
        for (int i = 0; i < want.length; i++) {
            is(what + " " + i, want[i], call.apply(i));
        }
        for (int other : new int[] {-1, want.length, Integer.MIN_VALUE, Integer.MAX_VALUE}) {
            is(what + " " + other, NONE, call.apply(other));
        }
    }

    void feed(String text) {
        int before = (int) call(x -> x.about(6));
        for (int i = 0; i < text.length(); i += 20) {
            int at = i;
            call(x -> x.feed(Check.four(text, at), Check.four(text, at + 4), Check.four(text, at + 8),
                Check.four(text, at + 12), Check.four(text, at + 16)));
        }
        is("end behind '" + text + "'", before + text.length(), x -> x.end(before + text.length()));
    }

    long tell(String text) {
        feed(text);
        return call(TaskHouse::business);
    }

    /** Claims a task and does it: so many tasks come. */
    void does(int person, int t, int field, int value, int come) {
        is("claim ahead of done", true, x -> x.claim(person, t) > 0);
        is("done(" + t + ", " + field + ", " + value + ")", come, x -> x.done(t, field, value));
    }

    /** So many tasks are there, and these are their dos. */
    void whichDos(String what, int... dos) {
        is(what + ": tasks", dos.length, x -> x.about(5));
        for (int t = 0; t < dos.length; t++) {
            int it = t;
            is(what + ": task " + t, dos[t], x -> x.task(it, 1));
        }
    }

    void over(int run, int want) {
        is("whether run " + run + " is over", want, x -> x.runOf(run, 4));
    }

    private TaskHouse again() {
        if (past.size() > MOST_CALLS - CALLS_FOR_LOOKS) {
            throw new IllegalStateException("no calls are left to look at the house");
        }
        TaskHouse x = new TaskHouse();
        for (Call it : past) {
            it.on(x);
        }
        return x;
    }

    List<Long> seen() {
        TaskHouse x = again();
        int persons = x.about(2);
        int runs = x.about(4);
        int tasks = x.about(5);
        List<Call> looks = new ArrayList<>();
        rows(looks, 1, 7, (i, what) -> h -> h.about(what));
        rows(looks, 1, 2, (i, what) -> h -> h.fault(what));
        looks.add(TaskHouse::late);
        rows(looks, persons, 6, (p, what) -> h -> h.personOf(p, what));
        rows(looks, runs, 6, (r, what) -> h -> h.runOf(r, what));
        rows(looks, tasks, 8, (t, what) -> h -> h.task(t, what));
        rows(looks, tasks, persons, (t, p) -> h -> h.may(p, t));
        rows(looks, tasks, 1, (t, i) -> h -> h.offer(t));
        for (int p = 0; p < persons; p++) {
            int who = p;
            looks.add(h -> h.stands(who));
            rows(looks, 1, x.list(who) + 1, (i, at) -> h -> h.listed(who, at));
        }
        List<Long> all = answers(looks);
        addWhatWouldCome(all, tasks);
        return all;
    }

    private interface Look {
        Call at(int i, int k);
    }

    private static void rows(List<Call> looks, int rows, int length, Look look) {
        for (int i = 0; i < rows; i++) {
            for (int k = 0; k < length; k++) {
                looks.add(look.at(i, k));
            }
        }
    }

    private List<Long> answers(List<Call> looks) {
        List<Long> all = new ArrayList<>();
        TaskHouse x = null;
        int left = 0;
        for (Call look : looks) {
            if (left == 0) {
                x = again();
                left = MOST_CALLS - past.size();
            }
            all.add(look.on(x));
            left--;
        }
        return all;
    }

    /** The tape, the business and the places at which runs wait are seen by what they bring about alone. */
    private void addWhatWouldCome(List<Long> all, int tasks) {
        TaskHouse told = again();
        all.add((long) told.business());
        all.add((long) told.fault(0));
        all.add((long) told.fault(1));
        addRun(all, told, tasks);
        addRun(all, again(), tasks);
        List<Call> states = new ArrayList<>();
        rows(states, tasks, 1, (t, i) -> x -> x.task(t, 5));
        List<Long> found = answers(states);
        for (int t = 0; t < tasks; t++) {
            if (found.get(t) != DONE) {
                addDone(all, again(), t, tasks);
            }
        }
    }

    private static void addRun(List<Long> all, TaskHouse x, int tasks) {
        int run = x.run();
        all.add((long) run);
        for (int what = 0; what < 6; what++) {
            all.add((long) x.runOf(run, what));
        }
        addTasks(all, x, tasks);
    }

    private static void addDone(List<Long> all, TaskHouse x, int t, int tasks) {
        all.add((long) x.claim(x.offer(t), t));
        all.add((long) x.done(t, NONE, 0));
        for (int what = 0; what < 6; what++) {
            all.add((long) x.runOf(x.task(t, 0), what));
        }
        addTasks(all, x, tasks);
    }

    private static void addTasks(List<Long> all, TaskHouse x, int from) {
        for (int t = from; t < x.about(5); t++) {
            for (int what = 0; what < 5; what++) {
                all.add((long) x.task(t, what));
            }
        }
    }
}
