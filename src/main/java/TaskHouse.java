/**
 * A house of work that waits on people: businesses told in a small language, runs of them, and the
 * tasks that persons claim and do. The numbered promises of the document say what each call answers.
 */
public final class TaskHouse {
    public static final int NONE = -1;

    private static final int MOST_BYTES = 300;
    private static final int FEED_BYTES = 20;
    private static final int MOST_STEPS = 40;
    private static final int MOST_OPEN = 4;
    private static final int MOST_RUNS = 8;
    private static final int MOST_TASKS = 200;
    private static final int MOST_PERSONS = 8;
    private static final int FIELDS = 4;
    private static final int LAST_HOUR = 20000;
    private static final int HIGHEST_NUMBER = 99;
    private static final int HIGHEST_ROLE = 5;
    private static final int ALL_ROLES = 63;
    private static final int HIGHEST_LOAD = 9;

    private final Reader reader;
    private final Persons persons;
    private final Tasks tasks;
    private final Walk walk;
    private final Run[] runs;
    private int runCount;
    private Business current;
    private int clock;
    private int latestFault;
    private int latestPlace;

    public TaskHouse() {
        reader = new Reader();
        persons = new Persons();
        tasks = new Tasks();
        walk = new Walk();
        runs = new Run[MOST_RUNS];
        runCount = 0;
        current = null;
        clock = 0;
        latestFault = NONE;
        latestPlace = NONE;
    }

    public int feed(int a, int b, int c, int d, int e) {
        Tape tape = reader.tape;
        if (tape.length + FEED_BYTES > MOST_BYTES) {
            return NONE;
        }
        tape.addFour(a);
        tape.addFour(b);
        tape.addFour(c);
        tape.addFour(d);
        tape.addFour(e);
        return tape.length;
    }

    public int end(int n) {
        Tape tape = reader.tape;
        if (n < 0 || n > tape.length) {
            return NONE;
        }
        tape.length = n;
        return n;
    }

    public int business() {
        Business told = reader.read();
        reader.tape.length = 0;
        latestFault = reader.faultKind;
        latestPlace = reader.faultPlace;
        if (told == null) {
            return NONE;
        }
        current = told;
        return told.steps;
    }

    public int fault(int what) {
        switch (what) {
            case 0:
                return latestFault;
            case 1:
                return latestPlace;
            default:
                return NONE;
        }
    }

    public int person(int roles, int load) {
        if (roles < 0 || roles > ALL_ROLES || load < 1 || load > HIGHEST_LOAD) {
            return NONE;
        }
        return persons.add(roles, load);
    }

    public boolean deputy(int person, int other) {
        if (!persons.has(person) || other == person) {
            return false;
        }
        if (other != NONE && !persons.has(other)) {
            return false;
        }
        persons.deputies[person] = other;
        return true;
    }

    public boolean away(int person, boolean it) {
        if (!persons.has(person)) {
            return false;
        }
        persons.gone[person] = it;
        if (it) {
            tasks.reopenAllOf(person);
            persons.claims[person] = 0;
        }
        return true;
    }

    public int stands(int person) {
        return persons.standInFor(person);
    }

    public boolean hour(int h) {
        if (h < clock || h > LAST_HOUR) {
            return false;
        }
        clock = h;
        return true;
    }

    public int run() {
        if (current == null || runCount >= MOST_RUNS) {
            return NONE;
        }
        walk.startAnew();
        walk.go(current, 0);
        if (!tasks.hasRoomFor(walk.cameCount)) {
            return NONE;
        }
        int number = runCount;
        Run begun = new Run(number, current);
        runs[number] = begun;
        runCount++;
        keepWalk(begun);
        return number;
    }

    public int runOf(int run, int what) {
        Run it = runAt(run);
        if (it == null) {
            return NONE;
        }
        if (what >= 0 && what < FIELDS) {
            return it.fields[what];
        }
        switch (what) {
            case 4:
                return it.over ? 1 : 0;
            case 5:
                return it.waiting;
            default:
                return NONE;
        }
    }

    public int task(int t, int what) {
        if (!tasks.has(t)) {
            return NONE;
        }
        switch (what) {
            case 0:
                return tasks.runs[t];
            case 1:
                return tasks.dos[t];
            case 2:
                return tasks.roles[t];
            case 3:
                return tasks.comeHours[t];
            case 4:
                return tasks.dues[t];
            case 5:
                return tasks.states[t];
            case 6:
                return tasks.owners[t];
            case 7:
                return tasks.doneHours[t];
            default:
                return NONE;
        }
    }

    public int may(int person, int t) {
        if (!persons.has(person) || !tasks.has(t)) {
            return NONE;
        }
        return isAllowed(person, persons.rolesServed(person), t) ? 1 : 0;
    }

    public int claim(int person, int t) {
        if (!persons.has(person) || !tasks.isIn(t, Tasks.OPEN)) {
            return NONE;
        }
        if (!persons.hasRoom(person) || !isAllowed(person, persons.rolesServed(person), t)) {
            return NONE;
        }
        tasks.give(t, person);
        persons.claims[person]++;
        return persons.claims[person];
    }

    public boolean giveBack(int t) {
        if (!tasks.isIn(t, Tasks.CLAIMED)) {
            return false;
        }
        persons.dropClaim(tasks.owners[t]);
        tasks.reopen(t);
        return true;
    }

    public int done(int t, int field, int value) {
        if (!tasks.isIn(t, Tasks.CLAIMED) || field < NONE || field >= FIELDS) {
            return NONE;
        }
        if (field != NONE && (value < 0 || value > HIGHEST_NUMBER)) {
            return NONE;
        }
        Run it = runAt(tasks.runs[t]);
        if (it == null) {
            return NONE;
        }
        walk.startFrom(it);
        walk.put(field, value);
        walk.go(it.business, it.business.placeBehind(tasks.dos[t]));
        if (!tasks.hasRoomFor(walk.cameCount)) {
            return NONE;
        }
        finishTask(it, t);
        keepWalk(it);
        return walk.cameCount;
    }

    public int list(int person) {
        if (!persons.has(person)) {
            return NONE;
        }
        int served = persons.rolesServed(person);
        int found = 0;
        for (int t = 0; t < tasks.count; t++) {
            if (isListed(person, served, t)) {
                found++;
            }
        }
        return found;
    }

    public int listed(int person, int i) {
        if (!persons.has(person) || i < 0) {
            return NONE;
        }
        int served = persons.rolesServed(person);
        int ahead = 0;
        for (int k = 0; k < tasks.count; k++) {
            int t = tasks.byDue[k];
            if (isListed(person, served, t)) {
                if (ahead == i) {
                    return t;
                }
                ahead++;
            }
        }
        return NONE;
    }

    public int offer(int t) {
        if (!tasks.isIn(t, Tasks.OPEN)) {
            return NONE;
        }
        int best = NONE;
        for (int p = 0; p < persons.count; p++) {
            boolean fewer = best == NONE || persons.claims[p] < persons.claims[best];
            if (fewer && persons.hasRoom(p) && isAllowed(p, persons.rolesServed(p), t)) {
                best = p;
            }
        }
        return best;
    }

    public int late() {
        int found = 0;
        for (int t = 0; t < tasks.count; t++) {
            if (tasks.states[t] != Tasks.DONE && tasks.dues[t] < clock) {
                found++;
            }
        }
        return found;
    }

    public int personOf(int person, int what) {
        if (!persons.has(person)) {
            return NONE;
        }
        switch (what) {
            case 0:
                return persons.roles[person];
            case 1:
                return persons.loads[person];
            case 2:
                return persons.claims[person];
            case 3:
                return persons.gone[person] ? 1 : 0;
            case 4:
                return persons.deputies[person];
            case 5:
                return persons.finished[person];
            default:
                return NONE;
        }
    }

    public int due(int hour, int n) {
        if (hour < 0 || hour > LAST_HOUR || n < 1 || n > HIGHEST_NUMBER) {
            return NONE;
        }
        return Calendar.endOfWorkingHour(hour, n);
    }

    public int about(int what) {
        switch (what) {
            case 0:
                return current == null ? NONE : current.steps;
            case 1:
                return current == null ? NONE : current.dos;
            case 2:
                return persons.count;
            case 3:
                return clock;
            case 4:
                return runCount;
            case 5:
                return tasks.count;
            case 6:
                return reader.tape.length;
            default:
                return NONE;
        }
    }

    private Run runAt(int number) {
        return number >= 0 && number < runCount && number < MOST_RUNS ? runs[number] : null;
    }

    private boolean isListed(int person, int served, int t) {
        return tasks.isIn(t, Tasks.OPEN) && isAllowed(person, served, t);
    }

    /** The roles served are handed in, so that a list asks for them once and not for each task. */
    private boolean isAllowed(int person, int served, int t) {
        if (!tasks.has(t) || (served >> tasks.roles[t] & 1) == 0) {
            return false;
        }
        Run it = runAt(tasks.runs[t]);
        if (it == null) {
            return false;
        }
        return it.lastDoerOf(it.business.eyesOf(tasks.dos[t])) != person;
    }

    private void finishTask(Run it, int t) {
        int doer = tasks.owners[t];
        tasks.finish(t, clock);
        persons.dropClaim(doer);
        persons.countFinished(doer);
        it.noteDoer(tasks.dos[t], doer);
        it.waiting--;
    }

    private void keepWalk(Run it) {
        it.take(walk);
        for (int k = 0; k < walk.cameCount; k++) {
            int which = walk.came[k];
            int dueHour = Calendar.endOfWorkingHour(clock, it.business.hoursOf(which));
            tasks.add(it.number, which, it.business.roleOf(which), clock, dueHour);
        }
        it.waiting += walk.cameCount;
    }

    /** The working hours: eight a day, from nine on, five days of the week's seven. */
    private static final class Calendar {
        private static final int DAY = 24;
        private static final int WEEK = 7 * DAY;
        private static final int FIRST_HOUR = 9;
        private static final int HOURS_A_DAY = 8;
        private static final int DAYS_A_WEEK = 5;
        private static final int HOURS_A_WEEK = HOURS_A_DAY * DAYS_A_WEEK;

        static int endOfWorkingHour(int from, int n) {
            int index = workingHoursBefore(from) + n - 1;
            int inWeek = index % HOURS_A_WEEK;
            int start = index / HOURS_A_WEEK * WEEK
                + inWeek / HOURS_A_DAY * DAY
                + FIRST_HOUR + inWeek % HOURS_A_DAY;
            return start + 1;
        }

        private static int workingHoursBefore(int hour) {
            int inWeek = hour % WEEK;
            int day = inWeek / DAY;
            int ofDay = Math.min(Math.max(inWeek % DAY - FIRST_HOUR, 0), HOURS_A_DAY);
            int ofWeek = day < DAYS_A_WEEK ? day * HOURS_A_DAY + ofDay : HOURS_A_WEEK;
            return hour / WEEK * HOURS_A_WEEK + ofWeek;
        }
    }

    /** The bytes that were fed, and the token of them that is looked at. */
    private static final class Tape {
        static final int DO = 0;
        static final int ROLE = 1;
        static final int DUE = 2;
        static final int EYES = 3;
        static final int BOTH = 4;
        static final int IF = 5;
        static final int ELSE = 6;
        static final int AGAIN = 7;
        static final int SET = 8;
        static final int NAME = 9;
        static final int NUMBER = 10;
        static final int OPEN = 11;
        static final int CLOSE = 12;
        static final int SEMICOLON = 13;
        static final int BELOW = 14;
        static final int END = 15;
        static final int BAD = 16;

        private static final int SHORTEST_TASK_NAME = 2;
        private static final int LONGEST_NAME = 6;
        private static final int BITS_A_LETTER = 5;
        private static final int TOO_HIGH = 1000;

        final byte[] bytes;
        int length;
        int kind;
        int start;
        /** Of a number what it says; of letters their key, in which six of them have room. */
        int value;
        private int at;
        private final int[] wordKeys;

        Tape() {
            bytes = new byte[MOST_BYTES];
            length = 0;
            kind = END;
            start = 0;
            value = 0;
            at = 0;
            wordKeys = new int[NAME];
            wordKeys[DO] = keyOf("do");
            wordKeys[ROLE] = keyOf("role");
            wordKeys[DUE] = keyOf("due");
            wordKeys[EYES] = keyOf("eyes");
            wordKeys[BOTH] = keyOf("both");
            wordKeys[IF] = keyOf("if");
            wordKeys[ELSE] = keyOf("else");
            wordKeys[AGAIN] = keyOf("again");
            wordKeys[SET] = keyOf("set");
        }

        void addFour(int four) {
            for (int shift = 24; shift >= 0; shift -= 8) {
                if (length >= 0 && length < bytes.length) {
                    bytes[length] = (byte) (four >>> shift);
                    length++;
                }
            }
        }

        void rewind() {
            at = 0;
            take();
        }

        void take() {
            while (at < length && isBlank(byteAt(at))) {
                at++;
            }
            start = at;
            value = 0;
            while (at < length && isLetter(byteAt(at))) {
                value = withLetter(value, byteAt(at));
                at++;
            }
            if (at > start) {
                kind = letters() > LONGEST_NAME ? BAD : kindOfKey(value);
                return;
            }
            while (at < length && isDigit(byteAt(at))) {
                value = Math.min(value * 10 + byteAt(at) - '0', TOO_HIGH);
                at++;
            }
            if (at > start) {
                kind = NUMBER;
            } else if (at >= length) {
                kind = END;
            } else {
                kind = signKind(byteAt(at));
                at++;
            }
        }

        /** A field's letter alone names no task, neither behind do nor behind eyes. */
        boolean isTaskName() {
            return kind == NAME && letters() >= SHORTEST_TASK_NAME;
        }

        private int letters() {
            return at - start;
        }

        private int kindOfKey(int key) {
            for (int k = 0; k < wordKeys.length; k++) {
                if (wordKeys[k] == key) {
                    return k;
                }
            }
            return NAME;
        }

        private int byteAt(int i) {
            return i >= 0 && i < bytes.length ? bytes[i] : 0;
        }

        private static int keyOf(String word) {
            int key = 0;
            for (int i = 0; i < word.length(); i++) {
                key = withLetter(key, word.charAt(i));
            }
            return key;
        }

        private static int withLetter(int key, int letter) {
            return (key << BITS_A_LETTER) + letter - 'a' + 1;
        }

        private static int signKind(int b) {
            switch (b) {
                case '{':
                    return OPEN;
                case '}':
                    return CLOSE;
                case ';':
                    return SEMICOLON;
                case '<':
                    return BELOW;
                default:
                    return BAD;
            }
        }

        private static boolean isBlank(int b) {
            return b == 32 || b == 10;
        }

        private static boolean isLetter(int b) {
            return b >= 'a' && b <= 'z';
        }

        private static boolean isDigit(int b) {
            return b >= '0' && b <= '9';
        }
    }

    /**
     * A business as a row of orders with targets: so a run that waits is nothing but the places at
     * which it waits, and no call need go down a tree.
     */
    private static final class Business {
        static final int DO = 0;
        static final int SET = 1;
        static final int IF = 2;
        static final int JUMP = 3;
        static final int FORK = 4;
        static final int JOIN = 5;
        static final int STOP = 6;

        /** A both, an if and an again become three orders each, all others one. */
        private static final int MOST_ORDERS = 3 * MOST_STEPS + 1;

        int steps;
        int dos;
        int boths;
        int length;
        final int[] orders;
        /** Of a do which one, of a fork or join which both, else the field. */
        final int[] subjects;
        final int[] numbers;
        final int[] targets;
        private final int[] roles;
        private final int[] hours;
        private final int[] eyes;
        private final int[] places;

        Business() {
            steps = 0;
            dos = 0;
            boths = 0;
            length = 0;
            orders = new int[MOST_ORDERS];
            subjects = new int[MOST_ORDERS];
            numbers = new int[MOST_ORDERS];
            targets = new int[MOST_ORDERS];
            roles = new int[MOST_STEPS];
            hours = new int[MOST_STEPS];
            eyes = new int[MOST_STEPS];
            places = new int[MOST_STEPS];
        }

        void clear() {
            steps = 0;
            dos = 0;
            boths = 0;
            length = 0;
        }

        /** The place of the new order; its target is put right once it is known. */
        int add(int order, int subject, int number, int target) {
            int place = length;
            if (place < 0 || place >= MOST_ORDERS) {
                return NONE;
            }
            orders[place] = order;
            subjects[place] = subject;
            numbers[place] = number;
            targets[place] = target;
            length++;
            return place;
        }

        void addDo(int role, int dueHours, int eyesOn) {
            int which = dos;
            if (which < 0 || which >= MOST_STEPS) {
                return;
            }
            roles[which] = role;
            hours[which] = dueHours;
            eyes[which] = eyesOn;
            places[which] = add(DO, which, 0, 0);
            dos++;
        }

        int addFork() {
            int place = add(FORK, boths, 0, 0);
            boths++;
            return place;
        }

        void aim(int place, int target) {
            if (hasOrder(place)) {
                targets[place] = target;
            }
        }

        int subjectAt(int place) {
            return hasOrder(place) ? subjects[place] : 0;
        }

        boolean hasOrder(int place) {
            return place >= 0 && place < length && place < MOST_ORDERS;
        }

        int roleOf(int which) {
            return hasDo(which) ? roles[which] : 0;
        }

        int hoursOf(int which) {
            return hasDo(which) ? hours[which] : 1;
        }

        int eyesOf(int which) {
            return hasDo(which) ? eyes[which] : NONE;
        }

        int placeBehind(int which) {
            return hasDo(which) ? places[which] + 1 : NONE;
        }

        private boolean hasDo(int which) {
            return which >= 0 && which < dos && which < MOST_STEPS;
        }
    }

    /** Reads the tape as a business; the first fault stays, and what is read behind it is not used. */
    private static final class Reader {
        private static final int MISPLACED = 1;
        private static final int WRONG_NAME = 2;
        private static final int WRONG_NUMBER = 3;
        private static final int TOO_MANY = 4;
        private static final int NEEDS_DO = 5;

        final Tape tape;
        int faultKind;
        int faultPlace;
        private Business draft;
        private boolean complete;
        private int told;
        private final int[] names;
        private int open;
        private final int[] words;
        private final int[] heads;
        private final int[] firstEnds;
        private final boolean[] inSecond;
        private final boolean[] firstHeld;
        /** By how many are open: whether the steps read there can't be gone through without a do. */
        private final boolean[] held;

        Reader() {
            tape = new Tape();
            faultKind = 0;
            faultPlace = NONE;
            draft = new Business();
            complete = false;
            told = 0;
            names = new int[MOST_STEPS];
            open = 0;
            words = new int[MOST_OPEN];
            heads = new int[MOST_OPEN];
            firstEnds = new int[MOST_OPEN];
            inSecond = new boolean[MOST_OPEN];
            firstHeld = new boolean[MOST_OPEN];
            held = new boolean[MOST_OPEN + 1];
        }

        /** Null if there is a fault. A draft is handed out once only, as runs go on by it. */
        Business read() {
            begin();
            for (int turn = 0; turn <= MOST_BYTES && faultKind == 0 && !complete; turn++) {
                if (tape.kind == Tape.CLOSE && open > 0) {
                    closeSteps();
                } else if (tape.kind == Tape.END && open == 0) {
                    draft.add(Business.STOP, 0, 0, 0);
                    complete = true;
                } else {
                    readStep();
                }
            }
            if (!complete) {
                return null;
            }
            Business ready = draft;
            draft = new Business();
            return ready;
        }

        private void begin() {
            faultKind = 0;
            faultPlace = NONE;
            complete = false;
            told = 0;
            open = 0;
            held[0] = false;
            draft.clear();
            tape.rewind();
        }

        private void fail(int kind) {
            if (faultKind == 0) {
                faultKind = kind;
                faultPlace = tape.start;
            }
        }

        private void readStep() {
            int word = tape.kind;
            boolean holdsSteps = word == Tape.BOTH || word == Tape.IF || word == Tape.AGAIN;
            if (!holdsSteps && word != Tape.DO && word != Tape.SET) {
                fail(MISPLACED);
                return;
            }
            if (draft.steps >= MOST_STEPS || holdsSteps && open >= MOST_OPEN) {
                fail(TOO_MANY);
                return;
            }
            draft.steps++;
            tape.take();
            switch (word) {
                case Tape.DO:
                    readDo();
                    break;
                case Tape.SET:
                    readSet();
                    break;
                case Tape.BOTH:
                    openSteps(word, draft.addFork());
                    break;
                case Tape.IF:
                    openSteps(word, readTest());
                    break;
                default:
                    // The first time an again goes past its own test.
                    draft.add(Business.JUMP, 0, 0, draft.length + 2);
                    openSteps(word, readTest());
                    break;
            }
        }

        private void readDo() {
            readNewName();
            need(Tape.ROLE);
            int role = readNumber(0, HIGHEST_ROLE);
            need(Tape.DUE);
            int hours = readNumber(1, HIGHEST_NUMBER);
            int eyes = tape.kind == Tape.EYES ? readEyes() : NONE;
            need(Tape.SEMICOLON);
            draft.addDo(role, hours, eyes);
            hold(true);
        }

        private void readSet() {
            int field = readField();
            int number = readNumber(0, HIGHEST_NUMBER);
            need(Tape.SEMICOLON);
            draft.add(Business.SET, field, number, 0);
        }

        private int readTest() {
            int field = readField();
            need(Tape.BELOW);
            int number = readNumber(0, HIGHEST_NUMBER);
            return draft.add(Business.IF, field, number, 0);
        }

        private void readNewName() {
            if (!tape.isTaskName()) {
                fail(MISPLACED);
            } else if (doNamed(tape.value) != NONE) {
                fail(WRONG_NAME);
            } else {
                if (told >= 0 && told < MOST_STEPS) {
                    names[told] = tape.value;
                    told++;
                }
                tape.take();
            }
        }

        private int readEyes() {
            tape.take();
            int which = doNamed(tape.value);
            if (!tape.isTaskName()) {
                fail(MISPLACED);
            } else if (which == NONE) {
                fail(WRONG_NAME);
            } else {
                tape.take();
            }
            return which;
        }

        private int doNamed(int key) {
            for (int k = 0; k < told && k < MOST_STEPS; k++) {
                if (names[k] == key) {
                    return k;
                }
            }
            return NONE;
        }

        private int readField() {
            // The keys of the one-letter names a .. d are 1 .. 4.
            int field = tape.value - 1;
            if (tape.kind != Tape.NAME || field < 0 || field >= FIELDS) {
                fail(MISPLACED);
                return 0;
            }
            tape.take();
            return field;
        }

        private int readNumber(int lowest, int highest) {
            int number = tape.value;
            if (tape.kind != Tape.NUMBER) {
                fail(MISPLACED);
                return lowest;
            }
            if (number < lowest || number > highest) {
                fail(WRONG_NUMBER);
                return lowest;
            }
            tape.take();
            return number;
        }

        private void need(int kind) {
            if (tape.kind == kind) {
                tape.take();
            } else {
                fail(MISPLACED);
            }
        }

        private void hold(boolean it) {
            if (it && open >= 0 && open <= MOST_OPEN) {
                held[open] = true;
            }
        }

        private void openSteps(int word, int head) {
            need(Tape.OPEN);
            if (open < 0 || open >= MOST_OPEN) {
                return;
            }
            words[open] = word;
            heads[open] = head;
            inSecond[open] = false;
            open++;
            held[open] = false;
        }

        private void closeSteps() {
            int top = open - 1;
            if (top < 0 || top >= MOST_OPEN) {
                return;
            }
            if (words[top] == Tape.AGAIN) {
                closeAgain(top);
            } else if (inSecond[top]) {
                closeSecond(top);
            } else {
                turnToSecond(top);
            }
        }

        private void closeAgain(int top) {
            if (!held[open]) {
                fail(NEEDS_DO);
                return;
            }
            tape.take();
            draft.add(Business.JUMP, 0, 0, heads[top]);
            draft.aim(heads[top], draft.length);
            open = top;
            hold(true);
        }

        private void turnToSecond(int top) {
            tape.take();
            if (words[top] == Tape.IF) {
                need(Tape.ELSE);
                firstEnds[top] = draft.add(Business.JUMP, 0, 0, 0);
            } else {
                firstEnds[top] = draft.add(Business.JOIN, draft.subjectAt(heads[top]), 0, 0);
            }
            need(Tape.OPEN);
            draft.aim(heads[top], draft.length);
            firstHeld[top] = held[open];
            inSecond[top] = true;
            held[open] = false;
        }

        private void closeSecond(int top) {
            boolean secondHeld = held[open];
            tape.take();
            open = top;
            if (words[top] == Tape.IF) {
                hold(firstHeld[top] && secondHeld);
            } else {
                draft.add(Business.JOIN, draft.subjectAt(heads[top]), 0, draft.length + 1);
                hold(firstHeld[top] || secondHeld);
            }
            draft.aim(firstEnds[top], draft.length);
        }
    }

    /** A run, and the business that was there as it began. */
    private static final class Run {
        final int number;
        final Business business;
        final int[] fields;
        /** By both: how many of its two ways aren't at their ends. */
        final int[] ways;
        private final int[] doers;
        boolean over;
        int waiting;

        Run(int number, Business business) {
            this.number = number;
            this.business = business;
            fields = new int[FIELDS];
            ways = new int[MOST_STEPS];
            doers = new int[MOST_STEPS];
            for (int k = 0; k < MOST_STEPS; k++) {
                doers[k] = NONE;
            }
            over = false;
            waiting = 0;
        }

        int lastDoerOf(int which) {
            return which >= 0 && which < MOST_STEPS ? doers[which] : NONE;
        }

        void noteDoer(int which, int doer) {
            if (which >= 0 && which < MOST_STEPS) {
                doers[which] = doer;
            }
        }

        void take(Walk walk) {
            System.arraycopy(walk.fields, 0, fields, 0, FIELDS);
            System.arraycopy(walk.ways, 0, ways, 0, MOST_STEPS);
            over = walk.over;
        }
    }

    /**
     * How a run would go on: it is walked here, aside, as nothing may be done to the run itself if
     * too many tasks would come.
     */
    private static final class Walk {
        /** No order is gone through more than twice in one walk, as each again waits for a do. */
        private static final int MOST_ORDERS_WALKED = 1000;

        final int[] fields;
        final int[] ways;
        final int[] came;
        int cameCount;
        boolean over;
        private final int[] secondWays;
        private int secondCount;

        Walk() {
            fields = new int[FIELDS];
            ways = new int[MOST_STEPS];
            came = new int[MOST_STEPS];
            cameCount = 0;
            over = false;
            secondWays = new int[MOST_STEPS];
            secondCount = 0;
        }

        void startAnew() {
            for (int k = 0; k < FIELDS; k++) {
                fields[k] = 0;
            }
            for (int k = 0; k < MOST_STEPS; k++) {
                ways[k] = 0;
            }
            forgetWhatCame();
        }

        void startFrom(Run it) {
            System.arraycopy(it.fields, 0, fields, 0, FIELDS);
            System.arraycopy(it.ways, 0, ways, 0, MOST_STEPS);
            forgetWhatCame();
        }

        private void forgetWhatCame() {
            cameCount = 0;
            secondCount = 0;
            over = false;
        }

        void put(int field, int value) {
            if (field >= 0 && field < FIELDS) {
                fields[field] = value;
            }
        }

        void go(Business business, int from) {
            int place = from;
            for (int n = 0; n < MOST_ORDERS_WALKED && place != NONE; n++) {
                place = follow(business, place);
                if (place == NONE) {
                    place = nextSecondWay();
                }
            }
        }

        /** The place to go on at; NONE if this way goes no farther. */
        private int follow(Business business, int place) {
            if (!business.hasOrder(place)) {
                return NONE;
            }
            int subject = business.subjects[place];
            int number = business.numbers[place];
            int target = business.targets[place];
            switch (business.orders[place]) {
                case Business.DO:
                    comeTo(subject);
                    return NONE;
                case Business.SET:
                    put(subject, number);
                    return place + 1;
                case Business.IF:
                    return isBelow(subject, number) ? place + 1 : target;
                case Business.JUMP:
                    return target;
                case Business.FORK:
                    fork(subject, target);
                    return place + 1;
                case Business.JOIN:
                    return endsLastWay(subject) ? target : NONE;
                default:
                    over = true;
                    return NONE;
            }
        }

        private int nextSecondWay() {
            if (secondCount <= 0 || secondCount > MOST_STEPS) {
                return NONE;
            }
            secondCount--;
            return secondWays[secondCount];
        }

        private void comeTo(int which) {
            if (cameCount >= 0 && cameCount < MOST_STEPS) {
                came[cameCount] = which;
                cameCount++;
            }
        }

        private boolean isBelow(int field, int number) {
            return field >= 0 && field < FIELDS && fields[field] < number;
        }

        private void fork(int which, int secondWay) {
            if (which >= 0 && which < MOST_STEPS) {
                ways[which] = 2;
            }
            if (secondCount >= 0 && secondCount < MOST_STEPS) {
                secondWays[secondCount] = secondWay;
                secondCount++;
            }
        }

        private boolean endsLastWay(int which) {
            if (which < 0 || which >= MOST_STEPS) {
                return false;
            }
            ways[which]--;
            return ways[which] == 0;
        }
    }

    /** The tasks, in rows by their numbers. */
    private static final class Tasks {
        static final int OPEN = 0;
        static final int CLAIMED = 1;
        static final int DONE = 2;

        int count;
        final int[] runs;
        final int[] dos;
        final int[] roles;
        final int[] comeHours;
        final int[] dues;
        final int[] states;
        final int[] owners;
        final int[] doneHours;
        /** Their numbers by due: kept in that order as they come, so that no call need sort. */
        final int[] byDue;

        Tasks() {
            count = 0;
            runs = new int[MOST_TASKS];
            dos = new int[MOST_TASKS];
            roles = new int[MOST_TASKS];
            comeHours = new int[MOST_TASKS];
            dues = new int[MOST_TASKS];
            states = new int[MOST_TASKS];
            owners = new int[MOST_TASKS];
            doneHours = new int[MOST_TASKS];
            byDue = new int[MOST_TASKS];
        }

        boolean has(int t) {
            return t >= 0 && t < count && t < MOST_TASKS;
        }

        boolean isIn(int t, int state) {
            return has(t) && states[t] == state;
        }

        boolean hasRoomFor(int more) {
            return count + more <= MOST_TASKS;
        }

        void add(int run, int which, int role, int hour, int dueHour) {
            int t = count;
            if (t < 0 || t >= MOST_TASKS) {
                return;
            }
            runs[t] = run;
            dos[t] = which;
            roles[t] = role;
            comeHours[t] = hour;
            dues[t] = dueHour;
            states[t] = OPEN;
            owners[t] = NONE;
            doneHours[t] = NONE;
            putByDue(t);
            count++;
        }

        private void putByDue(int t) {
            int k = t;
            while (k > 0 && isDueBehind(byDue[k - 1], t)) {
                byDue[k] = byDue[k - 1];
                k--;
            }
            byDue[k] = t;
        }

        private boolean isDueBehind(int former, int t) {
            return has(former) && dues[former] > dues[t];
        }

        void give(int t, int person) {
            if (has(t)) {
                states[t] = CLAIMED;
                owners[t] = person;
            }
        }

        void reopen(int t) {
            if (has(t)) {
                states[t] = OPEN;
                owners[t] = NONE;
            }
        }

        void reopenAllOf(int person) {
            for (int t = 0; t < count; t++) {
                if (isIn(t, CLAIMED) && owners[t] == person) {
                    reopen(t);
                }
            }
        }

        void finish(int t, int hour) {
            if (has(t)) {
                states[t] = DONE;
                doneHours[t] = hour;
            }
        }
    }

    /** The persons, in rows by their numbers. */
    private static final class Persons {
        int count;
        final int[] roles;
        final int[] loads;
        final int[] claims;
        final int[] finished;
        final int[] deputies;
        final boolean[] gone;

        Persons() {
            count = 0;
            roles = new int[MOST_PERSONS];
            loads = new int[MOST_PERSONS];
            claims = new int[MOST_PERSONS];
            finished = new int[MOST_PERSONS];
            deputies = new int[MOST_PERSONS];
            gone = new boolean[MOST_PERSONS];
        }

        boolean has(int p) {
            return p >= 0 && p < count && p < MOST_PERSONS;
        }

        int add(int roleSet, int load) {
            int p = count;
            if (p < 0 || p >= MOST_PERSONS) {
                return NONE;
            }
            roles[p] = roleSet;
            loads[p] = load;
            claims[p] = 0;
            finished[p] = 0;
            deputies[p] = NONE;
            gone[p] = false;
            count++;
            return p;
        }

        /** More steps than there are persons: then the row has come back to one that was in it. */
        int standInFor(int person) {
            int p = person;
            for (int n = 0; n < MOST_PERSONS && has(p); n++) {
                if (!gone[p]) {
                    return p;
                }
                p = deputies[p];
            }
            return NONE;
        }

        /** Its own roles, and those of all for whom it stands in; none while it is away. */
        int rolesServed(int person) {
            if (!has(person) || gone[person]) {
                return 0;
            }
            int served = roles[person];
            for (int p = 0; p < count; p++) {
                if (standInFor(p) == person) {
                    served |= roles[p];
                }
            }
            return served;
        }

        boolean hasRoom(int p) {
            return has(p) && claims[p] < loads[p];
        }

        void dropClaim(int p) {
            if (has(p)) {
                claims[p]--;
            }
        }

        void countFinished(int p) {
            if (has(p)) {
                finished[p]++;
            }
        }
    }
}
