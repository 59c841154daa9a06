import java.util.ArrayList;
import java.util.List;
import java.util.Random;

/** Runs of up to 512 calls by chance (the same each time), on the class and on the model at once. */
public final class ModelTest {
    private static final int HOUSES = 1500;
    private static final int TEXTS = 30000;
    private static final int CALLS = 512;
    private static final Check check = new Check("ModelTest");

    private final Random chance;
    private final String label;
    private TaskHouse x = new TaskHouse();
    private Model m = new Model();
    private int calls = 0;

    private ModelTest(long seed) {
        chance = new Random(seed);
        label = "seed " + seed;
    }

    public static void main(String[] args) {
        for (int seed = 0; seed < HOUSES && check.isClean(); seed++) {
            new ModelTest(seed).house();
        }
        for (int seed = 0; seed < TEXTS && check.isClean(); seed++) {
            new ModelTest(-1 - seed).text();
        }
        System.out.println("ModelTest: tasks " + mostTasks + ", faults " + java.util.Arrays.toString(faults)
            + ", runs over " + over + ", refused as full " + full);
        check.finish();
    }

    private static int mostTasks = 0;
    private static int over = 0;
    private static int full = 0;
    private static final int[] faults = new int[6];

    private void same(String call, long got, long want) {
        calls++;
        check.same(label + ", call " + calls + ": " + call, got, want);
    }

    private int below(int n) {
        return chance.nextInt(n);
    }

    private boolean oneIn(int n) {
        return below(n) == 0;
    }

    /** One of 0 .. n - 1, and at times one beside them. */
    private int about(int n) {
        int[] odd = {-1, n, n + 1, Integer.MIN_VALUE, Integer.MAX_VALUE, -2};
        return n <= 0 || oneIn(25) ? odd[below(odd.length)] : below(n);
    }

    // ---- texts

    private final List<String> names = new ArrayList<>();
    private final StringBuilder text = new StringBuilder();

    private String blank() {
        return oneIn(20) ? "\n" : oneIn(10) ? "  " : " ";
    }

    private void put(String token) {
        boolean glued = text.length() > 0 && Character.isLetterOrDigit(text.charAt(text.length() - 1))
            && Character.isLetterOrDigit(token.charAt(0));
        if (glued || oneIn(6)) {
            text.append(blank());
        }
        text.append(token);
    }

    private String name() {
        int n = oneIn(40) ? 1 + below(8) : 2;
        StringBuilder it = new StringBuilder();
        for (int i = 0; i < n; i++) {
            it.append((char) ('e' + below(20)));
        }
        return it.toString();
    }

    private String number(int low, int high) {
        int n = oneIn(120) ? high + 1 + below(3) : oneIn(200) ? low - 1 : low + below(high - low + 1);
        return (oneIn(60) ? "00" : "") + Math.max(n, 0);
    }

    private String field() {
        return oneIn(150) ? "e" : String.valueOf((char) ('a' + below(4)));
    }

    private String knownName() {
        return names.isEmpty() || oneIn(60) ? name() : names.get(below(names.size()));
    }

    private void putDo() {
        put("do");
        String it = oneIn(100) ? knownName() : name();
        names.add(it);
        put(it);
        put("role");
        put(number(0, 5));
        put("due");
        put(number(1, oneIn(3) ? 99 : 12));
        if (oneIn(3)) {
            put("eyes");
            put(knownName());
        }
        put(";");
    }

    private void putSteps(int depth, boolean needsDo, int most) {
        boolean open = depth > 0;
        if (open) {
            put("{");
        }
        int n = below(most + 1);
        for (int i = 0; i < n && text.length() < 260; i++) {
            putStep(depth);
        }
        if (needsDo && !oneIn(12)) {
            putDo();
        }
        if (open) {
            put("}");
        }
    }

    private void putTest(String word) {
        put(word);
        put(field());
        put("<");
        put(oneIn(2) ? number(0, 99) : number(0, 5));
    }

    private void putStep(int depth) {
        int kind = below(depth >= 4 && !oneIn(30) || text.length() > 220 ? 5 : 9);
        if (kind < 3) {
            putDo();
        } else if (kind < 5) {
            put("set");
            put(field());
            put(oneIn(2) ? number(0, 99) : number(0, 5));
            put(";");
        } else if (kind < 7) {
            put("both");
            putSteps(depth + 1, false, 2);
            putSteps(depth + 1, false, 2);
        } else if (kind < 8) {
            putTest("if");
            putSteps(depth + 1, false, 2);
            put("else");
            putSteps(depth + 1, false, 2);
        } else {
            putTest("again");
            putSteps(depth + 1, true, 2);
        }
    }

    private static final String[] TOKENS = {"do", "role", "due", "eyes", "both", "if", "else", "again", "set",
        "a", "b", "zz", "7", "0", "{", "}", ";", "<", "A", "\t", "abcdefg", "\u00ff", "100"};

    private String newText() {
        text.setLength(0);
        names.clear();
        if (oneIn(25)) {
            manySets();
        } else {
            putSteps(0, false, 1 + below(12));
        }
        for (int n = oneIn(5) ? 1 + below(2) : 0; n > 0 && text.length() > 0; n--) {
            int at = below(text.length());
            if (oneIn(2)) {
                text.deleteCharAt(at);
            } else {
                text.insert(at, TOKENS[below(TOKENS.length)]);
            }
        }
        if (text.length() > 300 || oneIn(60)) {
            text.setLength(Math.min(text.length(), 1 + below(300)));
        }
        return text.toString();
    }

    private void manySets() {
        for (int n = 37 + below(6); n > 0 && text.length() < 280; n--) {
            text.append(oneIn(40) ? "both{}{}" : "set a1;");
        }
    }

    private void feed(String it) {
        for (int i = 0; i < it.length(); i += 20) {
            int[] f = new int[5];
            for (int k = 0; k < 5; k++) {
                f[k] = Check.four(it, i + 4 * k);
            }
            same("feed", x.feed(f[0], f[1], f[2], f[3], f[4]), m.feed(f[0], f[1], f[2], f[3], f[4]));
        }
        same("end", x.end(it.length()), m.end(it.length()));
    }

    private void tell() {
        if (m.tape.length() > 0) {
            same("end(0)", x.end(0), m.end(0));
        }
        String it = newText();
        feed(it);
        same("business() of '" + it + "'", x.business(), m.business());
        same("fault(0) of '" + it + "'", x.fault(0), m.fault(0));
        same("fault(1) of '" + it + "'", x.fault(1), m.fault(1));
        faults[Math.max(0, Math.min(5, m.fault(0)))]++;
    }

    private void text() {
        tell();
        same("about(0)", x.about(0), m.about(0));
        same("about(1)", x.about(1), m.about(1));
    }

    // ---- houses

    private void house() {
        // At times but few persons and runs, so that tasks come to 200.
        boolean eager = oneIn(3);
        tell();
        for (int n = below(5); n >= 0; n--) {
            person();
        }
        while (calls < CALLS - 40 && check.isClean()) {
            if (eager && !oneIn(12)) {
                work();
            } else {
                call();
            }
        }
        mostTasks = Math.max(mostTasks, m.tasks.size());
        for (Model.Run run : m.runs) {
            over += run.all.ended ? 1 : 0;
        }
        x = null;
        m = null;
    }

    private void person() {
        int roles = oneIn(2) ? 63 : about(64);
        int load = 1 + about(9);
        same("person(" + roles + ", " + load + ")", x.person(roles, load), m.person(roles, load));
    }

    private int taskIn(int state) {
        List<Integer> all = new ArrayList<>();
        for (int t = 0; t < m.tasks.size(); t++) {
            if (m.tasks.get(t).state == state) {
                all.add(t);
            }
        }
        return all.isEmpty() || oneIn(15) ? about(m.tasks.size()) : all.get(below(all.size()));
    }

    private void done(int t) {
        int field = oneIn(3) ? -1 : about(4);
        int value = oneIn(2) ? about(5) : about(100);
        boolean claimed = m.isTask(t) && m.tasks.get(t).state == 1;
        int want = m.done(t, field, value);
        boolean taken = field == -1 || field >= 0 && field < 4 && value >= 0 && value < 100;
        if (claimed && want == -1 && taken) {
            full++;
        }
        same("done(" + t + ", " + field + ", " + value + ")", x.done(t, field, value), want);
    }

    private void claim(int person, int t) {
        same("claim(" + person + ", " + t + ")", x.claim(person, t), m.claim(person, t));
    }

    private void run() {
        same("run()", x.run(), m.run());
    }

    private void work() {
        int t = taskIn(0);
        int who = m.offer(t);
        if (who >= 0) {
            claim(who, t);
        } else if (oneIn(4)) {
            run();
        }
        done(taskIn(1));
    }

    private void call() {
        int p = about(m.persons.size());
        int q = about(m.persons.size());
        int t = about(m.tasks.size());
        int what = about(8);
        switch (below(24)) {
            case 0:
                tell();
                break;
            case 1:
                person();
                break;
            case 2:
                same("deputy(" + p + ", " + q + ")", x.deputy(p, q) ? 1 : 0, m.deputy(p, q) ? 1 : 0);
                break;
            case 3:
                boolean it = oneIn(2);
                same("away(" + p + ", " + it + ")", x.away(p, it) ? 1 : 0, m.away(p, it) ? 1 : 0);
                break;
            case 4:
                same("stands(" + p + ")", x.stands(p), m.stands(p));
                break;
            case 5:
                int h = oneIn(20) ? about(20001) : m.hour + below(30) - 1;
                h = h > 19000 ? m.hour - 1 : h;
                same("hour(" + h + ")", x.hour(h) ? 1 : 0, m.hour(h) ? 1 : 0);
                break;
            case 6:
                run();
                break;
            case 7:
                int r = about(m.runs.size());
                same("runOf(" + r + ", " + what + ")", x.runOf(r, what), m.runOf(r, what));
                break;
            case 8:
                same("task(" + t + ", " + what + ")", x.task(t, what), m.task(t, what));
                break;
            case 9:
                same("may(" + p + ", " + t + ")", x.may(p, t), m.may(p, t));
                break;
            case 10:
                claim(p, taskIn(0));
                break;
            case 11:
                t = taskIn(1);
                same("giveBack(" + t + ")", x.giveBack(t) ? 1 : 0, m.giveBack(t) ? 1 : 0);
                break;
            case 12:
                done(taskIn(1));
                break;
            case 13:
                same("list(" + p + ")", x.list(p), m.list(p));
                break;
            case 14:
                int i = about(m.list(p));
                same("listed(" + p + ", " + i + ")", x.listed(p, i), m.listed(p, i));
                break;
            case 15:
                t = taskIn(0);
                same("offer(" + t + ")", x.offer(t), m.offer(t));
                break;
            case 16:
                same("late()", x.late(), m.late());
                break;
            case 17:
                same("personOf(" + p + ", " + what + ")", x.personOf(p, what), m.personOf(p, what));
                break;
            case 18:
                int from = about(20001);
                int n = 1 + about(99);
                same("due(" + from + ", " + n + ")", x.due(from, n), m.due(from, n));
                break;
            case 19:
                same("about(" + what + ")", x.about(what), m.about(what));
                break;
            case 20:
                same("fault(" + what + ")", x.fault(what), m.fault(what));
                break;
            case 21:
                same("end(" + what + ")", x.end(what), m.end(what));
                break;
            default:
                work();
                break;
        }
    }
}
