/**
 * The sentences of the promises 1 to 24, in their order: a test each, under the number of its promise, at the
 * boundaries that the sentence names. By Tale a call that is refused is looked at from all sides: nothing may
 * have changed.
 */
public final class BoundaryTest {
    private static final int NONE = TaskHouse.NONE;
    private static final int LOW = Integer.MIN_VALUE;
    private static final int HIGH = Integer.MAX_VALUE;
    private static final int LAST_HOUR = 20000;
    private static final Check check = new Check("BoundaryTest");

    private static final String ONE = "do aa role 0 due 1;";
    private static final String TWO = "both { do aa role 0 due 1; } { do bb role 0 due 1; }";
    private static final String THREE = "both { do aa role 0 due 1; } { both { do bb role 0 due 1; } { do cc role 0 due 1; } }";

    public static void main(String[] args) {
        newObject();
        lastCall();
        feedTaken();
        feedRefused();
        endTaken();
        endRefused();
        businessTaken();
        businessRefused();
        businessReadAnew();
        faultOfLatest();
        faultRefused();
        personTaken();
        personRefused();
        deputyTaken();
        deputyRefused();
        awayTaken();
        awayRefused();
        standsTaken();
        standsRefused();
        hourTaken();
        hourRefused();
        runTaken();
        runRefused();
        runFull();
        runOfTaken();
        runOfRefused();
        taskTaken();
        taskRefused();
        mayTaken();
        mayRefused();
        claimTaken();
        claimRefused();
        giveBackTaken();
        giveBackRefused();
        doneTaken();
        doneRefused();
        doneFull();
        listTaken();
        listRefused();
        listedTaken();
        listedRefused();
        offerTaken();
        offerRefused();
        late();
        personOfTaken();
        personOfRefused();
        dueTaken();
        dueRefused();
        aboutTaken();
        aboutRefused();
        check.finish();
    }

    private static void newObject() {
        check.promise(1, "No BUSINESS, PERSONS, RUNS; HOUR 0.");
        Tale used = Tale.running(check, ONE, 9, 9);
        used.sure(h -> h.hour(99));
        used.feed("set");
        Tale x = new Tale(check);
        x.row("about", what -> h -> h.about(what), NONE, NONE, 0, 0, 0, 0, 0);
        x.row("fault", what -> h -> h.fault(what), NONE, NONE);
        x.none("run()", TaskHouse::run);
        x.none("runOf(0, 4)", h -> h.runOf(0, 4));
        x.none("task(0, 0)", h -> h.task(0, 0));
        x.none("personOf(0, 0)", h -> h.personOf(0, 0));
        x.none("stands(0)", h -> h.stands(0));
        x.none("list(0)", h -> h.list(0));
        x.none("listed(0, 0)", h -> h.listed(0, 0));
        x.none("offer(0)", h -> h.offer(0));
        x.none("may(0, 0)", h -> h.may(0, 0));
        x.none("claim(0, 0)", h -> h.claim(0, 0));
        x.none("done(0, -1, 0)", h -> h.done(0, NONE, 0));
        x.no("giveBack(0)", h -> h.giveBack(0));
        x.no("away(0, true)", h -> h.away(0, true));
        x.no("deputy(0, -1)", h -> h.deputy(0, NONE));
        x.idle("late()", 0, TaskHouse::late);
    }

    private static void lastCall() {
        check.promise(1, "An object is used for at most 512 calls after it has been made");
        Tale x = new Tale(check);
        for (int n = 1; n <= 511; n++) {
            int hour = n;
            x.is("call " + n, true, h -> h.hour(hour));
        }
        x.is("call 512", 511, h -> h.about(3));
        Tale y = new Tale(check);
        for (int n = 1; n <= 511; n++) {
            y.is("call " + n, 0, TaskHouse::business);
        }
        y.is("call 512", 0, h -> h.about(0));
    }

    private static void feedTaken() {
        check.promise(2, "Twenty bytes come behind the tape, the highest of a first: how many it has.");
        // Each of the twenty places at its turn holds the one byte that is no token.
        for (int place = 0; place < 20; place++) {
            int[] f = new int[5];
            for (int i = 0; i < 20; i++) {
                f[i / 4] = f[i / 4] << 8 | (i == place ? 0xff : ' ');
            }
            Tale x = new Tale(check);
            x.is("feed", 20, h -> h.feed(f[0], f[1], f[2], f[3], f[4]));
            x.is("business()", NONE, TaskHouse::business);
            x.is("place of the byte", place, h -> h.fault(1));
        }
        Tale y = new Tale(check);
        y.feed("set a 1; s");
        y.is("feed behind ten", 30, h -> h.feed(0x65742062, 0x20323b20, 0x20202020, 0x20202020, 0x20202020));
        y.is("'set a 1; set b 2;'", 2, TaskHouse::business);
    }

    private static void feedRefused() {
        check.promise(2, "NONE, and none come, if there would be more than 300.");
        Tale x = new Tale(check);
        for (int n = 20; n <= 300; n += 20) {
            x.is("feed", n, h -> h.feed(0x20202020, 0x20202020, 0x20202020, 0x20202020, 0x20202020));
        }
        x.none("320 bytes", h -> h.feed(1, 2, 3, 4, 5));
        for (int n = 299; n > 280; n--) {
            int left = n;
            x.call(h -> h.end(left));
            x.none((n + 20) + " bytes", h -> h.feed(1, 2, 3, 4, 5));
        }
        x.is("end(280)", 280, h -> h.end(280));
        x.is("300 bytes", 300, h -> h.feed(0x20202020, 0x20202020, 0x20202020, 0x73657420, 0x6120313b));
        x.none("one more", h -> h.feed(0, 0, 0, 0, 0));
        x.is("the last twenty are read", 1, TaskHouse::business);
        x.is("room again", 20, h -> h.feed(0, 0, 0, 0, 0));
    }

    private static void endTaken() {
        check.promise(3, "The tape has its first n bytes alone: n.");
        String text = "set a 1; set b 2; !";
        int[][] cuts = {{0, 0, 0}, {1, NONE, 1}, {7, NONE, 1}, {8, 1, 0}, {9, 1, 0}, {16, NONE, 1}, {17, 2, 0}, {18, 2, 0}, {19, NONE, 1}};
        for (int[] it : cuts) {
            Tale x = new Tale(check);
            x.feed(text);
            x.is("end", it[0], h -> h.end(it[0]));
            x.is("bytes", it[0], h -> h.about(6));
            x.is("end of as many again", it[0], h -> h.end(it[0]));
            x.is("steps of " + it[0] + " bytes", it[1], TaskHouse::business);
            x.is("fault of " + it[0] + " bytes", it[2], h -> h.fault(0));
        }
        Tale y = new Tale(check);
        y.is("end(0) of an empty tape", 0, h -> h.end(0));
        y.feed("set a 1; !!!!!!!!!!!!!!!");
        y.is("end(8)", 8, h -> h.end(8));
        y.feed("set b 2;");
        y.is("new bytes come behind the eighth", 2, TaskHouse::business);
        // What was behind the cut is no part of a token that the cut goes through.
        Tale z = new Tale(check);
        z.feed("set a 12;");
        z.is("end(7)", 7, h -> h.end(7));
        z.is("'set a 1'", NONE, TaskHouse::business);
        z.row("fault", what -> h -> h.fault(what), 1, 7);
        z.feed("set a 100;");
        z.is("end(8)", 8, h -> h.end(8));
        z.feed(";");
        z.is("'set a 10;'", 1, TaskHouse::business);
        z.is("run()", 0, TaskHouse::run);
        z.is("a", 10, h -> h.runOf(0, 0));
        z.feed("sets");
        z.is("end(3)", 3, h -> h.end(3));
        z.is("'set'", NONE, TaskHouse::business);
        z.row("fault", what -> h -> h.fault(what), 1, 3);
    }

    private static void endRefused() {
        check.promise(3, "NONE, and nothing is done, if it has not so many, or n is below 0.");
        Tale x = new Tale(check);
        for (int n : new int[] {1, -1, 300, 301, LOW, HIGH}) {
            x.none("end(" + n + ") of an empty tape", h -> h.end(n));
        }
        x.feed("set a 1; set b 2;");
        for (int n : new int[] {18, 20, 300, 301, -1, -17, LOW, HIGH}) {
            x.none("end(" + n + ") of seventeen bytes", h -> h.end(n));
        }
        x.is("end(16)", 16, h -> h.end(16));
        x.none("end(17) of sixteen", h -> h.end(17));
        x.is("end(0)", 0, h -> h.end(0));
        x.none("end(1) of none", h -> h.end(1));
    }

    private static void businessTaken() {
        check.promise(4, "The tape (empty then) becomes the BUSINESS: how many STEPS.");
        for (int steps = 0; steps <= 40; steps++) {
            Tale x = new Tale(check);
            check.same("steps", x.tell("set a1;".repeat(steps)), steps);
        }
        Tale x = Tale.of(check, TWO);
        x.row("about", what -> h -> h.about(what), 3, 2, 0, 0, 0, 0, 0);
        x.is("the empty tape", 0, TaskHouse::business);
        x.row("about", what -> h -> h.about(what), 0, 0, 0, 0, 0, 0, 0);
        x.is("a run of it", 0, TaskHouse::run);
        x.over(0, 1);
        check.same("names are told anew", x.tell("do aa role 0 due 1; do bb role 0 due 1;"), 2);
    }

    private static void businessRefused() {
        check.promise(4, "NONE: it has a FAULT, the former one stays.");
        Tale x = new Tale(check);
        check.same("the first, with a fault", x.tell("do aa role 0 due 1; both {"), NONE);
        x.row("no business", what -> h -> h.about(what), NONE, NONE, 0, 0, 0, 0, 0);
        x.none("run()", TaskHouse::run);
        check.same("without a fault", x.tell("do aa role 3 due 7;"), 1);
        String[] faults = {"do bb role 4 due 8; do cc role 5 due 9; }", "do bb role 4 due 8 eyes cc;", "do bb role 4 due 8; set a 100;",
            "both{both{both{both{both{}{}}{}}{}}{}}{}", "do bb role 4 due 8; again a < 1 { set a 1; }"};
        for (int k = 0; k < faults.length; k++) {
            check.same("with a fault", x.tell(faults[k]), NONE);
            x.is("fault", k + 1, h -> h.fault(0));
            x.row("the former one", what -> h -> h.about(what), 1, 1, 0, 0, k, k, 0);
            int run = k;
            x.is("a run of the former one", k, TaskHouse::run);
            x.is("its role", 3, h -> h.task(run, 2));
            x.is("its due", 16, h -> h.task(run, 4));
            x.is("waits for one", 1, h -> h.runOf(run, 5));
        }
    }

    /** What was read of one with a fault is no part of the next one. */
    private static void businessReadAnew() {
        check.promise(4, "The tape becomes the BUSINESS, behind others that had a FAULT");
        Tale x = new Tale(check);
        for (int n = 0; n < 3; n++) {
            check.same("a fault", x.tell("set a 9; do aa role 5 due 99; again b < 5 { do bb role 4 due 98; } }"), NONE);
            check.same("37 boths and a fault", x.tell("both{}{}".repeat(37) + "}"), NONE);
        }
        check.same("one without a fault", x.tell(TWO + " set d 1;"), 4);
        x.row("about", what -> h -> h.about(what), 4, 2, 0, 0, 0, 0, 0);
        x.call(h -> h.person(1, 9));
        x.is("run()", 0, TaskHouse::run);
        x.row("runOf", what -> h -> h.runOf(0, what), 0, 0, 0, 0, 0, 2);
        x.row("task(0, what)", what -> h -> h.task(0, what), 0, 0, 0, 0, 10, 0, NONE, NONE);
        x.does(0, 0, NONE, 0, 0);
        x.does(0, 1, NONE, 0, 0);
        x.row("runOf", what -> h -> h.runOf(0, what), 0, 0, 0, 1, 1, 0);
    }

    private static void faultOfLatest() {
        check.promise(5, "Of the latest business(): 0 its FAULT (0 without), 1 its place (NONE without).");
        Tale x = new Tale(check);
        String[] texts = {"set a 100;", "set a 99;", "}", "", "set a", "do aa role 0 due 1 eyes bb;", "again a < 1 { }",
            "both{both{both{both{both", ONE};
        int[][] faults = {{3, 6}, {0, NONE}, {1, 0}, {0, NONE}, {1, 5}, {2, 24}, {5, 14}, {4, 20}, {0, NONE}};
        for (int k = 0; k < texts.length; k++) {
            x.tell(texts[k]);
            x.row("fault of '" + texts[k] + "'", what -> h -> h.fault(what), faults[k]);
        }
        x.tell("set e");
        x.feed("set a 1;");
        x.call(h -> h.end(0));
        x.call(TaskHouse::run);
        x.row("it stays till the next", what -> h -> h.fault(what), 1, 4);
    }

    private static void faultRefused() {
        check.promise(5, "NONE for others, and ahead of any.");
        Tale x = new Tale(check);
        x.feed("set a 100;");
        for (int what : new int[] {0, 1, 2, -1, LOW, HIGH}) {
            x.none("fault(" + what + ") ahead of any", h -> h.fault(what));
        }
        x.call(TaskHouse::business);
        for (int what : new int[] {2, 3, -1, -2, LOW, HIGH}) {
            x.none("fault(" + what + ")", h -> h.fault(what));
        }
    }

    private static final int[][] EDGES_OF_PERSONS = {{0, 1}, {63, 9}, {0, 9}, {63, 1}, {1, 5}, {32, 5}, {62, 2}, {31, 8}};

    private static Tale eightPersons() {
        Tale x = new Tale(check);
        for (int p = 0; p < 8; p++) {
            int[] it = EDGES_OF_PERSONS[p];
            x.is("person(" + it[0] + ", " + it[1] + ")", p, h -> h.person(it[0], it[1]));
        }
        return x;
    }

    private static void personTaken() {
        check.promise(6, "A PERSON: its number.");
        Tale x = eightPersons();
        for (int p = 0; p < 8; p++) {
            int it = p;
            x.row("personOf", what -> h -> h.personOf(it, what), EDGES_OF_PERSONS[p][0], EDGES_OF_PERSONS[p][1], 0, 0, NONE, 0);
        }
        x.is("persons", 8, h -> h.about(2));
    }

    private static void personRefused() {
        check.promise(6, "NONE for others, or if there are 8.");
        Tale x = new Tale(check);
        int[][] others = {{-1, 1}, {64, 1}, {127, 1}, {LOW, 1}, {HIGH, 1}, {1, 0}, {1, 10}, {1, -1}, {1, LOW}, {1, HIGH}, {64, 10}};
        for (int[] it : others) {
            x.none("person(" + it[0] + ", " + it[1] + ")", h -> h.person(it[0], it[1]));
        }
        eightPersons().none("the ninth", h -> h.person(1, 1));
    }

    private static Tale threePersons() {
        Tale x = new Tale(check);
        for (int p = 0; p < 3; p++) {
            x.call(h -> h.person(1, 1));
        }
        return x;
    }

    private static void deputyTaken() {
        check.promise(7, "A PERSON's DEPUTY (NONE: none): true.");
        Tale x = threePersons();
        x.is("none of one without", true, h -> h.deputy(1, NONE));
        x.is("the last for the first", true, h -> h.deputy(0, 2));
        x.is("the same again", true, h -> h.deputy(0, 2));
        x.is("the first for the last", true, h -> h.deputy(2, 0));
        x.is("deputy of 0", 2, h -> h.personOf(0, 4));
        x.is("another one", true, h -> h.deputy(0, 1));
        x.is("deputy of 0", 1, h -> h.personOf(0, 4));
        x.is("none", true, h -> h.deputy(0, NONE));
        x.is("deputy of 0", NONE, h -> h.personOf(0, 4));
        x.is("deputy of 1", NONE, h -> h.personOf(1, 4));
        x.is("deputy of 2", 0, h -> h.personOf(2, 4));
        x.sure(h -> h.away(1, true));
        x.is("for one who is away", true, h -> h.deputy(1, 0));
        x.is("one who is away", true, h -> h.deputy(0, 1));
        x.is("deputy of 0", 1, h -> h.personOf(0, 4));
    }

    private static void deputyRefused() {
        check.promise(7, "False for others, or itself.");
        Tale x = threePersons();
        x.no("itself, as it has none", h -> h.deputy(0, 0));
        x.sure(h -> h.deputy(0, 2));
        int[][] others = {{0, 0}, {1, 1}, {2, 2}, {0, 3}, {0, 7}, {0, 8}, {0, -2}, {0, LOW}, {0, HIGH}, {3, 0}, {7, 0}, {8, 0},
            {-1, 0}, {-1, -1}, {LOW, 0}, {HIGH, 0}, {3, NONE}, {3, 3}};
        for (int[] it : others) {
            x.no("deputy(" + it[0] + ", " + it[1] + ")", h -> h.deputy(it[0], it[1]));
        }
    }

    private static void awayTaken() {
        check.promise(8, "A PERSON is AWAY, or not: true.");
        Tale x = Tale.running(check, ONE, 1, 1);
        x.call(h -> h.claim(0, 0));
        x.idle("here already", 1, h -> h.away(0, false) ? 1 : 0);
        x.is("away", true, h -> h.away(1, true));
        x.is("whether 1 is", 1, h -> h.personOf(1, 3));
        x.is("whether 0 is", 0, h -> h.personOf(0, 3));
        x.idle("away already", 1, h -> h.away(1, true) ? 1 : 0);
        x.is("back", true, h -> h.away(1, false));
        x.is("whether 1 is", 0, h -> h.personOf(1, 3));
    }

    private static void awayRefused() {
        check.promise(8, "False: there is none such.");
        Tale x = Tale.running(check, ONE, 1, 1);
        x.call(h -> h.claim(0, 0));
        for (int p : new int[] {-1, 2, 7, 8, LOW, HIGH}) {
            x.no("away(" + p + ", true)", h -> h.away(p, true));
            x.no("away(" + p + ", false)", h -> h.away(p, false));
        }
    }

    private static void standsTaken() {
        check.promise(9, "Who STANDS IN for a PERSON (itself, if it isn't AWAY).");
        Tale x = threePersons();
        x.row("without deputies", p -> h -> h.stands(p), 0, 1, 2);
        x.sure(h -> h.deputy(0, 1), h -> h.deputy(1, 2), h -> h.deputy(2, 0));
        x.row("whatever the deputies", p -> h -> h.stands(p), 0, 1, 2);
        x.sure(h -> h.away(0, true));
        x.row("0 is away", p -> h -> h.stands(p), 1, 1, 2);
        x.sure(h -> h.away(1, true));
        x.row("1 is away too", p -> h -> h.stands(p), 2, 2, 2);
        x.sure(h -> h.away(0, false));
        x.row("1 is away", p -> h -> h.stands(p), 0, 2, 2);
    }

    private static void standsRefused() {
        check.promise(9, "NONE: nobody, or no such PERSON.");
        Tale x = threePersons();
        for (int p : new int[] {-1, 3, 7, 8, LOW, HIGH}) {
            x.none("stands(" + p + ")", h -> h.stands(p));
        }
        x.sure(h -> h.deputy(0, 1), h -> h.away(1, true));
        x.none("nobody for one without a deputy", h -> h.stands(1));
        x.sure(h -> h.away(0, true));
        x.none("nobody for one whose deputy is away", h -> h.stands(0));
        x.sure(h -> h.deputy(1, 0));
        x.none("nobody, as both are one another's", h -> h.stands(0));
    }

    private static void hourTaken() {
        check.promise(10, "The clock goes on to an HOUR: true.");
        Tale x = new Tale(check);
        for (int hour : new int[] {0, 0, 1, 2, 19999, 19999, LAST_HOUR, LAST_HOUR}) {
            x.is("hour(" + hour + ")", true, h -> h.hour(hour));
            x.is("the clock's", hour, h -> h.about(3));
        }
        x.idle("its own one", 1, h -> h.hour(LAST_HOUR) ? 1 : 0);
    }

    private static void hourRefused() {
        check.promise(10, "False for others, or an earlier one.");
        Tale x = new Tale(check);
        for (int hour : new int[] {-1, 20001, LOW, HIGH}) {
            x.no("hour(" + hour + ") at 0", h -> h.hour(hour));
        }
        x.sure(h -> h.hour(1));
        x.no("hour(0) at 1", h -> h.hour(0));
        x.sure(h -> h.hour(19999));
        for (int hour : new int[] {19998, 0, -1, 20001, 65536, LOW, HIGH}) {
            x.no("hour(" + hour + ") at 19999", h -> h.hour(hour));
        }
        x.sure(h -> h.hour(LAST_HOUR));
        x.no("hour(20001) at 20000", h -> h.hour(20001));
        x.no("hour(19999) at 20000", h -> h.hour(19999));
    }

    private static void runTaken() {
        check.promise(11, "A RUN begins: its number.");
        Tale x = Tale.of(check, TWO);
        for (int r = 0; r < 8; r++) {
            int run = r;
            x.is("run()", r, TaskHouse::run);
            x.is("runs", r + 1, h -> h.about(4));
            x.is("tasks", 2 * r + 2, h -> h.about(5));
            x.is("run of the newest task", r, h -> h.task(2 * run + 1, 0));
        }
    }

    private static void runRefused() {
        check.promise(11, "NONE: no BUSINESS, or there are 8");
        Tale x = new Tale(check);
        x.none("no business", TaskHouse::run);
        x.feed("set a 1;");
        x.none("on the tape only", TaskHouse::run);
        x.is("business()", 1, TaskHouse::business);
        for (int r = 0; r < 8; r++) {
            x.is("run()", r, TaskHouse::run);
        }
        x.none("there are 8, though all are over", TaskHouse::run);
        check.same("another business", x.tell(ONE), 1);
        x.none("there are 8", TaskHouse::run);
    }

    private static void runFull() {
        check.promise(11, "or TASKS would be above 200: nothing is done.");
        Tale x = Tale.nearlyFull(check, 2);
        x.tell("set a 1; " + THREE);
        x.none("201 tasks", TaskHouse::run);
        x.tell("set b 7; " + TWO);
        x.is("200 tasks", 6, TaskHouse::run);
        x.is("tasks", 200, h -> h.about(5));
        x.is("run of 199", 6, h -> h.task(199, 0));
        x.row("its fields", what -> h -> h.runOf(6, what), 0, 7, 0, 0, 0, 2);
        x.none("202 tasks", TaskHouse::run);
        x.tell(ONE);
        x.none("201 tasks", TaskHouse::run);
        x.tell("set a 1;");
        x.is("none comes", 7, TaskHouse::run);
        x.over(7, 1);
    }

    private static void runOfTaken() {
        check.promise(12, "Of a RUN: 0 .. 3 FIELDS a .. d, 4 whether it is OVER (1, 0), 5 TASKS that aren't DONE.");
        Tale x = Tale.running(check, "set a 4; set b 3; set c 2; set d 1; " + THREE, 9);
        x.row("runOf(0, what)", what -> h -> h.runOf(0, what), 4, 3, 2, 1, 0, 3);
        x.call(h -> h.claim(0, 0));
        x.is("claimed isn't done", 3, h -> h.runOf(0, 5));
        x.call(h -> h.done(0, 3, 99));
        x.row("one is done", what -> h -> h.runOf(0, what), 4, 3, 2, 99, 0, 2);
        x.call(TaskHouse::run);
        x.row("another run", what -> h -> h.runOf(1, what), 4, 3, 2, 1, 0, 3);
        x.does(0, 1, NONE, 0, 0);
        x.does(0, 2, NONE, 0, 0);
        x.row("all are done", what -> h -> h.runOf(0, what), 4, 3, 2, 99, 1, 0);
        x.row("another run", what -> h -> h.runOf(1, what), 4, 3, 2, 1, 0, 3);
    }

    private static void runOfRefused() {
        check.promise(12, "NONE for others.");
        Tale x = Tale.running(check, "set a 4; " + THREE, 9);
        x.row("runOf(run, 0) of one", run -> h -> h.runOf(run, 0), 4);
        for (int r = 1; r < 8; r++) {
            x.call(TaskHouse::run);
        }
        x.row("runOf(run, 0) of eight", run -> h -> h.runOf(run, 0), 4, 4, 4, 4, 4, 4, 4, 4);
        for (int no : new int[] {-1, 8, LOW, HIGH}) {
            x.none("runOf(" + no + ", 0)", h -> h.runOf(no, 0));
            x.none("runOf(0, " + no + ")", h -> h.runOf(0, no));
        }
        x.none("runOf(7, 6)", h -> h.runOf(7, 6));
        x.none("runOf(8, 6)", h -> h.runOf(8, 6));
    }

    private static void taskTaken() {
        check.promise(13, "Of a TASK: 0 RUN, 1 which do, .. 6 by whom (NONE), 7 the HOUR at which it was DONE (NONE).");
        Tale x = Tale.of(check, "do aa role 0 due 1; both { do bb role 5 due 9; } { do cc role 3 due 99; }");
        x.call(h -> h.person(63, 9));
        x.sure(h -> h.hour(16));
        x.call(TaskHouse::run);
        x.row("task(0, what)", what -> h -> h.task(0, what), 0, 0, 0, 16, 17, 0, NONE, NONE);
        x.call(h -> h.claim(0, 0));
        x.row("task(0, what)", what -> h -> h.task(0, what), 0, 0, 0, 16, 17, 1, 0, NONE);
        x.sure(h -> h.hour(17));
        x.call(h -> h.done(0, NONE, 0));
        x.row("task(0, what)", what -> h -> h.task(0, what), 0, 0, 0, 16, 17, 2, 0, 17);
        x.row("task(1, what)", what -> h -> h.task(1, what), 0, 1, 5, 17, 58, 0, NONE, NONE);
        x.row("task(2, what)", what -> h -> h.task(2, what), 0, 2, 3, 17, 2 * 168 + 3 * 24 + 12, 0, NONE, NONE);
        x.call(TaskHouse::run);
        x.row("task(3, what)", what -> h -> h.task(3, what), 1, 0, 0, 17, 34, 0, NONE, NONE);
    }

    private static void taskRefused() {
        check.promise(13, "NONE for others.");
        Tale x = Tale.running(check, ONE, 9);
        x.row("task(t, 2) of one", t -> h -> h.task(t, 2), 0);
        x.tell(TWO);
        x.call(TaskHouse::run);
        x.row("task(t, 0) of three", t -> h -> h.task(t, 0), 0, 1, 1);
        for (int no : new int[] {-1, 8, 199, 200, LOW, HIGH}) {
            x.none("task(" + no + ", 0)", h -> h.task(no, 0));
            x.none("task(0, " + no + ")", h -> h.task(0, no));
        }
        x.none("task(3, 8)", h -> h.task(3, 8));
    }

    private static void mayTaken() {
        check.promise(14, "Whether a PERSON MAY do a TASK (1, 0).");
        Tale x = Tale.running(check, ONE, 1, 1);
        x.call(h -> h.person(62, 1));
        x.row("of an open one", p -> h -> h.may(p, 0), 1, 1, 0);
        x.idle("may(0, 0)", 1, h -> h.may(0, 0));
        x.call(h -> h.claim(0, 0));
        x.row("of a claimed one, whatever the load", p -> h -> h.may(p, 0), 1, 1, 0);
        x.call(h -> h.done(0, NONE, 0));
        x.row("of a done one", p -> h -> h.may(p, 0), 1, 1, 0);
    }

    private static void mayRefused() {
        check.promise(14, "NONE: no such ones.");
        Tale x = Tale.running(check, TWO, 1, 1, 1);
        x.row("may(0, t)", t -> h -> h.may(0, t), 1, 1);
        x.none("may(0, 2)", h -> h.may(0, 2));
        for (int no : new int[] {-1, 3, 7, 8, 199, 200, LOW, HIGH}) {
            x.none("may(" + no + ", 0)", h -> h.may(no, 0));
            x.none("may(0, " + no + ")", h -> h.may(0, no));
            x.none("may(" + no + ", " + no + ")", h -> h.may(no, no));
        }
    }

    private static void claimTaken() {
        check.promise(15, "A TASK is CLAIMED by a PERSON: its CLAIMS.");
        Tale x = Tale.running(check, THREE, 1, 3);
        x.is("the first of 1", 1, h -> h.claim(1, 2));
        x.is("the first of 0", 1, h -> h.claim(0, 1));
        x.is("the second of 1", 2, h -> h.claim(1, 0));
        int[] owners = {1, 0, 1};
        for (int t = 0; t < 3; t++) {
            int it = t;
            x.is("state of " + t, 1, h -> h.task(it, 5));
            x.is("owner of " + t, owners[t], h -> h.task(it, 6));
        }
        x.call(TaskHouse::run);
        x.is("the third of 1, of another run", 3, h -> h.claim(1, 5));
        x.is("claims of 1", 3, h -> h.personOf(1, 2));
        x.is("claims of 0", 1, h -> h.personOf(0, 2));
    }

    private static void claimRefused() {
        check.promise(15, "NONE: no such ones, it isn't OPEN, MAY not, or LOAD.");
        Tale x = Tale.running(check, "do ab role 0 due 1; both { do cd role 0 due 1 eyes ab; } { do ef role 1 due 1; }", 1, 9);
        x.call(h -> h.person(3, 9));
        for (int no : new int[] {-1, 3, 7, 8, 200, LOW, HIGH}) {
            x.none("claim(" + no + ", 0)", h -> h.claim(no, 0));
            x.none("claim(0, " + no + ")", h -> h.claim(0, no));
        }
        x.is("claim", 1, h -> h.claim(0, 0));
        x.none("it is claimed by itself", h -> h.claim(0, 0));
        x.none("it is claimed by another", h -> h.claim(1, 0));
        x.is("done", 2, h -> h.done(0, NONE, 0));
        x.none("it is done", h -> h.claim(1, 0));
        x.none("four eyes", h -> h.claim(0, 1));
        x.none("not its role", h -> h.claim(1, 2));
        x.sure(h -> h.away(2, true));
        x.none("away", h -> h.claim(2, 2));
        x.sure(h -> h.deputy(2, 0));
        x.is("stands in", 1, h -> h.claim(0, 2));
        x.call(TaskHouse::run);
        x.none("load", h -> h.claim(0, 3));
    }

    private static void giveBackTaken() {
        check.promise(16, "A CLAIMED TASK is OPEN again: true.");
        Tale x = Tale.running(check, TWO, 2);
        x.is("claim", 1, h -> h.claim(0, 1));
        x.is("claim", 2, h -> h.claim(0, 0));
        x.is("giveBack", true, h -> h.giveBack(0));
        x.row("task(0, what)", what -> h -> h.task(0, what), 0, 0, 0, 0, 10, 0, NONE, NONE);
        x.row("task(1, what)", what -> h -> h.task(1, what), 0, 1, 0, 0, 10, 1, 0, NONE);
        x.row("personOf", what -> h -> h.personOf(0, what), 1, 2, 1, 0, NONE, 0);
        x.row("listed again", i -> h -> h.listed(0, i), 0);
        x.is("offered again", 0, h -> h.offer(0));
        x.is("claimed again", 2, h -> h.claim(0, 0));
    }

    private static void giveBackRefused() {
        check.promise(16, "False: it isn't CLAIMED.");
        Tale x = Tale.running(check, TWO, 9);
        for (int t : new int[] {0, 1, -1, 2, 200, LOW, HIGH}) {
            x.no("giveBack(" + t + ")", h -> h.giveBack(t));
        }
        x.call(h -> h.claim(0, 0));
        x.no("the other one is", h -> h.giveBack(1));
        x.sure(h -> h.giveBack(0));
        x.no("it was given back", h -> h.giveBack(0));
        x.does(0, 0, NONE, 0, 0);
        x.no("it is done", h -> h.giveBack(0));
        x.call(h -> h.claim(0, 1));
        x.sure(h -> h.away(0, true));
        x.no("its person went away", h -> h.giveBack(1));
    }

    private static void doneTaken() {
        check.promise(17, "A CLAIMED TASK is DONE by who claimed it, with a FIELD (0 .. 3; NONE: none) put to a value (0 .. 99)");
        String fifties = "set a 50; set b 50; set c 50; set d 50; do aa role 0 due 1; do bb role 0 due 1;";
        for (int field = 0; field < 4; field++) {
            for (int value : new int[] {0, 1, 98, 99}) {
                Tale x = Tale.running(check, fifties, 9);
                x.does(0, 0, field, value, 1);
                int[] want = {50, 50, 50, 50, 0, 1};
                want[field] = value;
                x.row("runOf", what -> h -> h.runOf(0, what), want);
            }
        }
        for (int value : new int[] {0, 99, -1, 100, LOW, HIGH}) {
            Tale x = Tale.running(check, fifties, 9);
            x.does(0, 0, NONE, value, 1);
            x.row("runOf", what -> h -> h.runOf(0, what), 50, 50, 50, 50, 0, 1);
        }
        Tale y = Tale.running(check, "do aa role 0 due 1; if b < 1 { } else { both { do bb role 0 due 1; } { do cc role 0 due 1; } }", 9, 9);
        y.call(TaskHouse::run);
        y.does(0, 0, 1, 0, 0);
        y.does(1, 1, 1, 1, 2);
        y.row("personOf(0, what)", what -> h -> h.personOf(0, what), 1, 9, 0, 0, NONE, 1);
        y.row("personOf(1, what)", what -> h -> h.personOf(1, what), 1, 9, 0, 0, NONE, 1);
        y.is("by 0", 0, h -> h.task(0, 6));
        y.is("by 1", 1, h -> h.task(1, 6));
    }

    private static void doneRefused() {
        check.promise(17, "NONE: others");
        Tale x = Tale.running(check, "do aa role 0 due 1; do bb role 0 due 1;", 9);
        for (int t : new int[] {0, 1, -1, 200, LOW, HIGH}) {
            x.none("done(" + t + ", -1, 0) while none is claimed", h -> h.done(t, NONE, 0));
        }
        x.call(h -> h.claim(0, 0));
        int[][] others = {{-2, 0}, {4, 0}, {LOW, 0}, {HIGH, 0}, {0, -1}, {0, 100}, {3, -1}, {3, 100}, {1, LOW}, {2, HIGH}, {4, 100}};
        for (int[] it : others) {
            x.none("done(0, " + it[0] + ", " + it[1] + ")", h -> h.done(0, it[0], it[1]));
        }
        x.none("done(1, 0, 0)", h -> h.done(1, 0, 0));
        x.is("done", 1, h -> h.done(0, 0, 99));
        x.none("it is done", h -> h.done(0, 0, 1));
        x.none("the next is open", h -> h.done(1, 0, 1));
        x.call(h -> h.claim(0, 1));
        x.sure(h -> h.giveBack(1));
        x.none("it was given back", h -> h.done(1, 0, 1));
        x.call(h -> h.claim(0, 1));
        x.sure(h -> h.away(0, true));
        x.none("its person went away", h -> h.done(1, 0, 1));
    }

    private static void doneFull() {
        check.promise(17, "or TASKS would be above 200: nothing is done.");
        Tale x = Tale.nearlyFull(check, 3);
        check.same("a business", x.tell("do zz role 0 due 1; set c 7; if b < 5 { " + TWO + " } else { both { do cc role 0 due 1; } "
            + "{ both { do dd role 0 due 1; } { do ee role 0 due 1; } } }"), 11);
        x.is("run()", 6, TaskHouse::run);
        x.call(h -> h.claim(0, 197));
        x.none("201 tasks", h -> h.done(197, 1, 5));
        x.none("201 tasks once more", h -> h.done(197, 1, 99));
        x.is("200 tasks", 2, h -> h.done(197, 1, 4));
        x.row("runOf", what -> h -> h.runOf(6, what), 0, 4, 7, 0, 0, 2);
        x.is("tasks", 200, h -> h.about(5));
        x.call(h -> h.claim(0, 149));
        x.none("one more of another run", h -> h.done(149, NONE, 0));
        x.is("its way ends", 0, h -> h.done(149, 0, 1));
        x.does(0, 198, NONE, 0, 0);
        x.does(0, 199, NONE, 0, 0);
        x.over(6, 1);
    }

    private static void listTaken() {
        check.promise(18, "How many TASKS THE LIST of a PERSON has.");
        Tale x = Tale.of(check, THREE);
        x.call(h -> h.person(1, 1));
        x.call(h -> h.person(62, 1));
        x.idle("no tasks", 0, h -> h.list(0));
        x.call(TaskHouse::run);
        x.row("list(p)", p -> h -> h.list(p), 3, 0);
        x.call(h -> h.claim(0, 0));
        x.is("at its load", 2, h -> h.list(0));
        x.call(h -> h.done(0, NONE, 0));
        x.is("the done one isn't", 2, h -> h.list(0));
        x.sure(h -> h.away(0, true));
        x.is("away", 0, h -> h.list(0));
        Tale.nearlyFull(check, 0).idle("of a full house", 48, h -> h.list(0));
    }

    private static void listRefused() {
        check.promise(18, "NONE: there is none such.");
        Tale x = Tale.running(check, ONE, 1, 1);
        for (int p : new int[] {-1, 2, 7, 8, LOW, HIGH}) {
            x.none("list(" + p + ")", h -> h.list(p));
        }
    }

    private static void listedTaken() {
        check.promise(19, "The i-th TASK of THE LIST.");
        Tale x = Tale.running(check, THREE, 9);
        x.row("listed(0, i)", i -> h -> h.listed(0, i), 0, 1, 2);
        x.call(h -> h.claim(0, 0));
        x.row("without the first", i -> h -> h.listed(0, i), 1, 2);
        x.call(h -> h.claim(0, 2));
        x.row("without the last", i -> h -> h.listed(0, i), 1);
        Tale.nearlyFull(check, 0).idle("the last of a full house", 199, h -> h.listed(0, 47));
    }

    private static void listedRefused() {
        check.promise(19, "NONE if there is none such.");
        Tale x = Tale.running(check, THREE, 9);
        x.call(h -> h.person(62, 1));
        x.none("of an empty list", h -> h.listed(1, 0));
        x.none("of no list", h -> h.listed(2, 0));
        for (int no : new int[] {-1, 3, 7, 8, 199, 200, LOW, HIGH}) {
            x.none("listed(0, " + no + ")", h -> h.listed(0, no));
            x.none("listed(" + no + ", 0)", h -> h.listed(no, 0));
        }
        Tale.nearlyFull(check, 0).none("behind the last of a full house", h -> h.listed(0, 48));
    }

    private static void offerTaken() {
        check.promise(20, "THE OFFER.");
        Tale x = Tale.running(check, THREE, 1, 1);
        x.idle("the lowest", 0, h -> h.offer(0));
        x.call(h -> h.claim(0, 0));
        x.idle("the one with fewer", 1, h -> h.offer(1));
        x.sure(h -> h.giveBack(0));
        x.idle("the lowest again", 0, h -> h.offer(1));
    }

    private static void offerRefused() {
        check.promise(20, "NONE: nobody, it isn't OPEN, or no such TASK.");
        Tale x = Tale.of(check, TWO);
        x.call(TaskHouse::run);
        x.none("no persons", h -> h.offer(0));
        x.call(h -> h.person(62, 9));
        x.none("nobody may", h -> h.offer(0));
        x.call(h -> h.person(1, 1));
        for (int t : new int[] {-1, 2, 200, LOW, HIGH}) {
            x.none("offer(" + t + ")", h -> h.offer(t));
        }
        x.call(h -> h.claim(1, 0));
        x.none("it is claimed", h -> h.offer(0));
        x.none("all are at their loads", h -> h.offer(1));
        x.call(h -> h.done(0, NONE, 0));
        x.none("it is done", h -> h.offer(0));
        x.is("offer", 1, h -> h.offer(1));
        x.sure(h -> h.away(1, true));
        x.none("away", h -> h.offer(1));
    }

    private static void late() {
        check.promise(21, "How many TASKS aren't DONE and are past DUE at the clock's HOUR (DUE is below it).");
        Tale x = Tale.running(check, "both { do aa role 0 due 1; } { both { do bb role 0 due 2; } { do cc role 0 due 99; } }", 9);
        int[][] rows = {{0, 0}, {9, 0}, {10, 0}, {11, 1}, {12, 2}, {396, 2}, {397, 3}};
        for (int[] it : rows) {
            x.sure(h -> h.hour(it[0]));
            x.is("late at " + it[0], it[1], TaskHouse::late);
        }
        x.call(h -> h.claim(0, 0));
        x.is("claimed isn't done", 3, TaskHouse::late);
        x.call(h -> h.done(0, NONE, 0));
        x.is("done is", 2, TaskHouse::late);
        x.sure(h -> h.hour(LAST_HOUR));
        x.call(TaskHouse::run);
        x.idle("those that came at the last hour aren't", 2, TaskHouse::late);
        x.does(0, 1, NONE, 0, 0);
        x.does(0, 2, NONE, 0, 0);
        x.is("none", 0, TaskHouse::late);
        Tale full = Tale.nearlyFull(check, 0);
        full.sure(h -> h.hour(11));
        full.is("of a full house those that are open", 48, TaskHouse::late);
    }

    private static void personOfTaken() {
        check.promise(22, "Of a PERSON: 0 roles, 1 LOAD, 2 CLAIMS, 3 AWAY (1, 0), 4 DEPUTY (NONE), 5 TASKS DONE by it.");
        Tale x = Tale.running(check, THREE, 9, 2);
        x.call(h -> h.person(0, 1));
        x.does(1, 0, NONE, 0, 0);
        x.call(h -> h.claim(1, 1));
        x.call(h -> h.claim(1, 2));
        x.sure(h -> h.deputy(1, 0));
        x.row("personOf(0, what)", what -> h -> h.personOf(0, what), 1, 9, 0, 0, NONE, 0);
        x.row("personOf(1, what)", what -> h -> h.personOf(1, what), 1, 2, 2, 0, 0, 1);
        x.row("personOf(2, what)", what -> h -> h.personOf(2, what), 0, 1, 0, 0, NONE, 0);
        x.call(h -> h.done(2, NONE, 0));
        x.row("personOf(1, what)", what -> h -> h.personOf(1, what), 1, 2, 1, 0, 0, 2);
        x.sure(h -> h.away(1, true));
        x.row("personOf(1, what)", what -> h -> h.personOf(1, what), 1, 2, 0, 1, 0, 2);
        Tale.nearlyFull(check, 0).idle("done ones of a full house", 152, h -> h.personOf(0, 5));
    }

    private static void personOfRefused() {
        check.promise(22, "NONE for others.");
        Tale x = Tale.running(check, ONE, 7, 8, 9);
        x.row("personOf(p, 1)", p -> h -> h.personOf(p, 1), 7, 8, 9);
        for (int no : new int[] {-1, 6, 7, 8, LOW, HIGH}) {
            x.none("personOf(" + no + ", 0)", h -> h.personOf(no, 0));
            x.none("personOf(0, " + no + ")", h -> h.personOf(0, no));
        }
        x.none("personOf(3, 6)", h -> h.personOf(3, 6));
        eightPersons().none("personOf(8, 0) of eight", h -> h.personOf(8, 0));
    }

    private static void dueTaken() {
        check.promise(23, "The end of the n-th (1 .. 99) WORKING HOUR from an HOUR (0 .. 20000) on.");
        Tale x = new Tale(check);
        x.idle("due(0, 1)", 10, h -> h.due(0, 1));
        x.is("due(0, 99)", 396, h -> h.due(0, 99));
        x.is("due(20000, 1)", 20002, h -> h.due(LAST_HOUR, 1));
        x.is("due(20000, 99)", 20388, h -> h.due(LAST_HOUR, 99));
        x.sure(h -> h.hour(LAST_HOUR));
        x.is("whatever the clock", 10, h -> h.due(0, 1));
    }

    private static void dueRefused() {
        check.promise(23, "NONE for others.");
        Tale x = new Tale(check);
        int[][] others = {{-1, 1}, {20001, 1}, {LOW, 1}, {HIGH, 1}, {0, 0}, {0, 100}, {0, -1}, {0, LOW}, {0, HIGH},
            {LAST_HOUR, 0}, {LAST_HOUR, 100}, {-1, 0}, {20001, 100}};
        for (int[] it : others) {
            x.none("due(" + it[0] + ", " + it[1] + ")", h -> h.due(it[0], it[1]));
        }
    }

    private static void aboutTaken() {
        check.promise(24, "0 STEPS of the BUSINESS, 1 its dos (both NONE without one), 2 PERSONS, .. 6 bytes of the tape.");
        Tale x = new Tale(check);
        x.feed("set a 1");
        x.row("without a business", what -> h -> h.about(what), NONE, NONE, 0, 0, 0, 0, 7);
        x.call(TaskHouse::business);
        x.row("without one still", what -> h -> h.about(what), NONE, NONE, 0, 0, 0, 0, 0);
        x.tell(THREE);
        x.call(h -> h.person(1, 1));
        x.sure(h -> h.hour(LAST_HOUR));
        x.call(TaskHouse::run);
        x.call(TaskHouse::run);
        x.row("about", what -> h -> h.about(what), 5, 3, 1, LAST_HOUR, 2, 6, 0);
        Tale full = Tale.nearlyFull(check, 0);
        full.row("of a full house", what -> h -> h.about(what), 23, 8, 1, 0, 6, 200, 0);
    }

    private static void aboutRefused() {
        check.promise(24, "NONE for others.");
        for (Tale x : new Tale[] {new Tale(check), Tale.running(check, ONE, 1)}) {
            for (int what : new int[] {-1, 7, 8, LOW, HIGH}) {
                x.none("about(" + what + ")", h -> h.about(what));
            }
        }
    }
}
