import java.util.ArrayList;
import java.util.Comparator;
import java.util.HashMap;
import java.util.List;
import java.util.Map;

/**
 * The document once more, written another way, for ModelTest: a business is a tree, a run a tree of
 * what is under way in it, hours are counted one by one and lists are sorted when they are asked for.
 */
final class Model {
    static final int NONE = -1;

    /** A step or a row of steps; word "steps", "do", "set", "both", "if" or "again". */
    static final class Node {
        String word;
        int field;
        int number;
        int role;
        int due;
        int which;
        int eyes = NONE;
        final List<Node> kids = new ArrayList<>();

        Node(String word) {
            this.word = word;
        }

        boolean passable() {
            switch (word) {
                case "do":
                case "again":
                    return false;
                case "set":
                    return true;
                case "both":
                    return kids.get(0).passable() && kids.get(1).passable();
                case "if":
                    return kids.get(0).passable() || kids.get(1).passable();
                default:
                    return kids.stream().allMatch(Node::passable);
            }
        }
    }

    static final class Fault extends Exception {
        private static final long serialVersionUID = 1L;
        final int kind;
        final int place;

        Fault(int kind, int place) {
            this.kind = kind;
            this.place = place;
        }
    }

    static final class Parser {
        private static final String WORDS = " do role due eyes both if else again set ";
        final List<String> tokens = new ArrayList<>();
        final List<Integer> places = new ArrayList<>();
        final Map<String, Integer> told = new HashMap<>();
        final List<Node> dos = new ArrayList<>();
        int at = 0;
        int steps = 0;

        Parser(String text) {
            int i = 0;
            while (i < text.length()) {
                char c = text.charAt(i);
                int from = i++;
                if (c == ' ' || c == '\n') {
                    continue;
                }
                String kind = letter(c) ? "l" : digit(c) ? "d" : "";
                while (i < text.length() && !kind.isEmpty()
                    && (kind.equals("l") ? letter(text.charAt(i)) : digit(text.charAt(i)))) {
                    i++;
                }
                tokens.add(text.substring(from, i));
                places.add(from);
            }
            tokens.add("");
            places.add(text.length());
        }

        static boolean letter(char c) {
            return c >= 'a' && c <= 'z';
        }

        static boolean digit(char c) {
            return c >= '0' && c <= '9';
        }

        String token() {
            return tokens.get(at);
        }

        Fault fault(int kind) {
            return new Fault(kind, places.get(at));
        }

        boolean isName() {
            return token().matches("[a-z]{1,6}") && !WORDS.contains(" " + token() + " ");
        }

        void eat(String token) throws Fault {
            if (!token().equals(token)) {
                throw fault(1);
            }
            at++;
        }

        int number(int low, int high) throws Fault {
            if (!token().matches("[0-9]+")) {
                throw fault(1);
            }
            java.math.BigInteger value = new java.math.BigInteger(token());
            if (value.compareTo(java.math.BigInteger.valueOf(low)) < 0
                || value.compareTo(java.math.BigInteger.valueOf(high)) > 0) {
                throw fault(3);
            }
            at++;
            return value.intValue();
        }

        int field() throws Fault {
            if (!token().matches("[abcd]")) {
                throw fault(1);
            }
            return tokens.get(at++).charAt(0) - 'a';
        }

        Node whole() throws Fault {
            Node all = steps(0);
            if (!token().isEmpty()) {
                throw fault(1);
            }
            return all;
        }

        Node steps(int depth) throws Fault {
            Node all = new Node("steps");
            while (!token().isEmpty() && !token().equals("}")) {
                all.kids.add(step(depth));
            }
            return all;
        }

        Node block(int depth) throws Fault {
            eat("{");
            Node all = steps(depth + 1);
            if (!token().equals("}")) {
                throw fault(1);
            }
            return all;
        }

        Node step(int depth) throws Fault {
            Node it = new Node(token());
            boolean nest = it.word.matches("both|if|again");
            if (!nest && !it.word.matches("do|set")) {
                throw fault(1);
            }
            steps++;
            if (steps == 41 || nest && depth == 4) {
                throw fault(4);
            }
            at++;
            switch (it.word) {
                case "do":
                    readDo(it);
                    break;
                case "set":
                    it.field = field();
                    it.number = number(0, 99);
                    eat(";");
                    break;
                case "both":
                    it.kids.add(block(depth));
                    eat("}");
                    it.kids.add(block(depth));
                    eat("}");
                    break;
                default:
                    it.field = field();
                    eat("<");
                    it.number = number(0, 99);
                    it.kids.add(block(depth));
                    if (it.word.equals("again") && it.kids.get(0).passable()) {
                        throw fault(5);
                    }
                    eat("}");
                    if (it.word.equals("if")) {
                        eat("else");
                        it.kids.add(block(depth));
                        eat("}");
                    }
                    break;
            }
            return it;
        }

        void readDo(Node it) throws Fault {
            if (!isName() || token().length() < 2) {
                throw fault(1);
            }
            if (told.containsKey(token())) {
                throw fault(2);
            }
            it.which = dos.size();
            dos.add(it);
            told.put(tokens.get(at++), it.which);
            eat("role");
            it.role = number(0, 5);
            eat("due");
            it.due = number(1, 99);
            if (token().equals("eyes")) {
                at++;
                if (!isName() || token().length() < 2) {
                    throw fault(1);
                }
                if (!told.containsKey(token())) {
                    throw fault(2);
                }
                it.eyes = told.get(tokens.get(at++));
            }
            eat(";");
        }
    }

    static final class Task {
        int run;
        Node step;
        int came;
        int due;
        int state = 0;
        int by = NONE;
        int doneAt = NONE;
    }

    /** A node that is under way in a run. */
    static final class Act {
        final Node node;
        int next = 0;
        Act first;
        Act second;
        boolean ended = false;

        Act(Node node) {
            this.node = node;
        }

        Act copy() {
            Act it = new Act(node);
            it.next = next;
            it.first = first == null ? null : first.copy();
            it.second = second == null ? null : second.copy();
            it.ended = ended;
            return it;
        }

        void enter(Run run) {
            switch (node.word) {
                case "do":
                    run.came.add(node);
                    break;
                case "set":
                    run.fields[node.field] = node.number;
                    ended = true;
                    break;
                case "both":
                    first = new Act(node.kids.get(0));
                    second = new Act(node.kids.get(1));
                    first.enter(run);
                    second.enter(run);
                    ended = first.ended && second.ended;
                    break;
                case "if":
                    first = new Act(node.kids.get(run.fields[node.field] < node.number ? 0 : 1));
                    first.enter(run);
                    ended = first.ended;
                    break;
                case "again":
                    first = new Act(node.kids.get(0));
                    first.enter(run);
                    break;
                default:
                    goOn(run);
                    break;
            }
        }

        void goOn(Run run) {
            while (next < node.kids.size()) {
                first = new Act(node.kids.get(next));
                first.enter(run);
                if (!first.ended) {
                    return;
                }
                next++;
            }
            ended = true;
        }

        void done(Run run, int which) {
            if (ended) {
                return;
            }
            switch (node.word) {
                case "do":
                    ended = node.which == which;
                    break;
                case "both":
                    first.done(run, which);
                    second.done(run, which);
                    ended = first.ended && second.ended;
                    break;
                case "if":
                    first.done(run, which);
                    ended = first.ended;
                    break;
                case "again":
                    first.done(run, which);
                    if (first.ended && run.fields[node.field] < node.number) {
                        enter(run);
                    } else {
                        ended = first.ended;
                    }
                    break;
                default:
                    first.done(run, which);
                    if (first.ended) {
                        next++;
                        goOn(run);
                    }
                    break;
            }
        }
    }

    static final class Run {
        int[] fields = new int[4];
        Act all;
        List<Node> came = new ArrayList<>();
    }

    static final class Person {
        int roles;
        int load;
        boolean away = false;
        int deputy = NONE;
    }

    String tape = "";
    Node business = null;
    int steps = NONE;
    int dos = NONE;
    int faultKind = NONE;
    int faultPlace = NONE;
    int hour = 0;
    final List<Person> persons = new ArrayList<>();
    final List<Run> runs = new ArrayList<>();
    final List<Task> tasks = new ArrayList<>();

    boolean isPerson(int p) {
        return p >= 0 && p < persons.size();
    }

    boolean isTask(int t) {
        return t >= 0 && t < tasks.size();
    }

    int feed(int a, int b, int c, int d, int e) {
        if (tape.length() > 280) {
            return NONE;
        }
        int[] all = {a, b, c, d, e};
        for (int i = 0; i < 20; i++) {
            tape += (char) (all[i / 4] >> 24 - i % 4 * 8 & 255);
        }
        return tape.length();
    }

    int end(int n) {
        if (n < 0 || n > tape.length()) {
            return NONE;
        }
        tape = tape.substring(0, n);
        return n;
    }

    int business() {
        Parser parser = new Parser(tape);
        tape = "";
        try {
            business = parser.whole();
            steps = parser.steps;
            dos = parser.dos.size();
            faultKind = 0;
            faultPlace = NONE;
            return steps;
        } catch (Fault fault) {
            faultKind = fault.kind;
            faultPlace = fault.place;
            return NONE;
        }
    }

    int fault(int what) {
        return what == 0 ? faultKind : what == 1 ? faultPlace : NONE;
    }

    int person(int roles, int load) {
        if (roles < 0 || roles > 63 || load < 1 || load > 9 || persons.size() == 8) {
            return NONE;
        }
        Person it = new Person();
        it.roles = roles;
        it.load = load;
        persons.add(it);
        return persons.size() - 1;
    }

    boolean deputy(int person, int other) {
        if (!isPerson(person) || person == other || other != NONE && !isPerson(other)) {
            return false;
        }
        persons.get(person).deputy = other;
        return true;
    }

    boolean away(int person, boolean it) {
        if (!isPerson(person)) {
            return false;
        }
        persons.get(person).away = it;
        for (Task task : tasks) {
            if (it && task.state == 1 && task.by == person) {
                task.state = 0;
                task.by = NONE;
            }
        }
        return true;
    }

    int stands(int person) {
        List<Integer> row = new ArrayList<>();
        int p = person;
        while (isPerson(p) && !row.contains(p)) {
            if (!persons.get(p).away) {
                return p;
            }
            row.add(p);
            p = persons.get(p).deputy;
        }
        return NONE;
    }

    boolean hour(int h) {
        if (h < hour || h > 20000) {
            return false;
        }
        hour = h;
        return true;
    }

    int run() {
        if (business == null || runs.size() == 8) {
            return NONE;
        }
        Run run = new Run();
        run.all = new Act(business);
        run.all.enter(run);
        if (tasks.size() + run.came.size() > 200) {
            return NONE;
        }
        runs.add(run);
        come(run);
        return runs.size() - 1;
    }

    private int come(Run run) {
        int n = run.came.size();
        for (Node step : run.came) {
            Task task = new Task();
            task.run = runs.indexOf(run);
            task.step = step;
            task.came = hour;
            task.due = due(hour, step.due);
            tasks.add(task);
        }
        run.came.clear();
        return n;
    }

    int runOf(int run, int what) {
        if (run < 0 || run >= runs.size() || what < 0 || what > 5) {
            return NONE;
        }
        Run it = runs.get(run);
        if (what < 4) {
            return it.fields[what];
        }
        return what == 4 ? (it.all.ended ? 1 : 0)
            : (int) tasks.stream().filter(t -> t.run == run && t.state != 2).count();
    }

    int task(int t, int what) {
        if (!isTask(t) || what < 0 || what > 7) {
            return NONE;
        }
        Task it = tasks.get(t);
        int[] all = {it.run, it.step.which, it.step.role, it.came, it.due, it.state, it.by, it.doneAt};
        return all[what];
    }

    int may(int person, int t) {
        if (!isPerson(person) || !isTask(t)) {
            return NONE;
        }
        Task task = tasks.get(t);
        boolean has = false;
        for (int p = 0; p < persons.size(); p++) {
            has |= (persons.get(p).roles & 1 << task.step.role) != 0 && stands(p) == person;
        }
        int last = NONE;
        for (Task other : tasks) {
            if (other.run == task.run && other.state == 2 && other.step.which == task.step.eyes) {
                last = other.by;
            }
        }
        return has && last != person ? 1 : 0;
    }

    int claims(int person) {
        return (int) tasks.stream().filter(t -> t.state == 1 && t.by == person).count();
    }

    int claim(int person, int t) {
        if (may(person, t) != 1 || tasks.get(t).state != 0 || claims(person) >= persons.get(person).load) {
            return NONE;
        }
        tasks.get(t).state = 1;
        tasks.get(t).by = person;
        return claims(person);
    }

    boolean giveBack(int t) {
        if (!isTask(t) || tasks.get(t).state != 1) {
            return false;
        }
        tasks.get(t).state = 0;
        tasks.get(t).by = NONE;
        return true;
    }

    int done(int t, int field, int value) {
        if (!isTask(t) || tasks.get(t).state != 1 || field < -1 || field > 3) {
            return NONE;
        }
        if (field >= 0 && (value < 0 || value > 99)) {
            return NONE;
        }
        Task task = tasks.get(t);
        Run run = runs.get(task.run);
        Act formerAll = run.all.copy();
        int[] formerFields = run.fields.clone();
        if (field != NONE) {
            run.fields[field] = value;
        }
        run.all.done(run, task.step.which);
        if (tasks.size() + run.came.size() > 200) {
            run.all = formerAll;
            run.fields = formerFields;
            run.came.clear();
            return NONE;
        }
        task.state = 2;
        task.doneAt = hour;
        return come(run);
    }

    private List<Integer> listOf(int person) {
        List<Integer> all = new ArrayList<>();
        for (int t = 0; t < tasks.size(); t++) {
            if (tasks.get(t).state == 0 && may(person, t) == 1) {
                all.add(t);
            }
        }
        all.sort(Comparator.comparingInt((Integer t) -> tasks.get(t).due).thenComparingInt(t -> t));
        return all;
    }

    int list(int person) {
        return isPerson(person) ? listOf(person).size() : NONE;
    }

    int listed(int person, int i) {
        return isPerson(person) && i >= 0 && i < listOf(person).size() ? listOf(person).get(i) : NONE;
    }

    int offer(int t) {
        if (!isTask(t) || tasks.get(t).state != 0) {
            return NONE;
        }
        int best = NONE;
        for (int p = persons.size() - 1; p >= 0; p--) {
            if (may(p, t) == 1 && claims(p) < persons.get(p).load && (best == NONE || claims(p) <= claims(best))) {
                best = p;
            }
        }
        return best;
    }

    int late() {
        return (int) tasks.stream().filter(t -> t.state != 2 && t.due < hour).count();
    }

    int personOf(int person, int what) {
        if (!isPerson(person) || what < 0 || what > 5) {
            return NONE;
        }
        Person it = persons.get(person);
        int done = (int) tasks.stream().filter(t -> t.state == 2 && t.by == person).count();
        int[] all = {it.roles, it.load, claims(person), it.away ? 1 : 0, it.deputy, done};
        return all[what];
    }

    int due(int from, int n) {
        if (from < 0 || from > 20000 || n < 1 || n > 99) {
            return NONE;
        }
        int at = from;
        for (int left = n; left > 0; at++) {
            if (at / 24 % 7 <= 4 && at % 24 >= 9 && at % 24 <= 16) {
                left--;
            }
        }
        return at;
    }

    int about(int what) {
        int[] all = {steps, dos, persons.size(), hour, runs.size(), tasks.size(), tape.length()};
        return what >= 0 && what < all.length ? all[what] : NONE;
    }
}
