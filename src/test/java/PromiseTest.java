/** The promises 1 to 24, each by calls whose answers the document tells. */
public final class PromiseTest {
    private static final int NONE = TaskHouse.NONE;
    private static final int LOW = Integer.MIN_VALUE;
    private static final int HIGH = Integer.MAX_VALUE;
    private static final Check check = new Check("PromiseTest");

    public static void main(String[] args) {
        newObject();
        feed();
        end();
        business();
        fault();
        person();
        deputy();
        away();
        stands();
        hour();
        run();
        runWays();
        runChoices();
        runAgain();
        runsKeepTheirBusiness();
        runFull();
        runOf();
        task();
        may();
        mayEyes();
        claim();
        giveBack();
        done();
        doneWithoutField();
        doneFull();
        list();
        listed();
        offer();
        late();
        personOf();
        due();
        about();
        check.finish();
    }

    private static void same(String what, long got, long want) {
        check.same(what, got, want);
    }

    private static void same(String what, boolean got, boolean want) {
        check.same(what, got, want);
    }

    /** Claims and does a task by a person who may. */
    private static int doIt(TaskHouse x, int person, int t, int field, int value) {
        same("claim ahead of done", x.claim(person, t) > 0, true);
        return x.done(t, field, value);
    }

    private static void whichDos(TaskHouse x, String what, int... dos) {
        same(what + ": about(5)", x.about(5), dos.length);
        for (int t = 0; t < dos.length; t++) {
            same(what + ": task(" + t + ", 1)", x.task(t, 1), dos[t]);
        }
    }

    private static void newObject() {
        check.promise(1, "a new object");
        TaskHouse x = new TaskHouse();
        same("NONE", TaskHouse.NONE, -1);
        int[] want = {NONE, NONE, 0, 0, 0, 0, 0};
        for (int what = 0; what < want.length; what++) {
            same("new about(" + what + ")", x.about(what), want[what]);
        }
        same("new run()", x.run(), NONE);
        same("new stands(0)", x.stands(0), NONE);
        same("new personOf(0, 0)", x.personOf(0, 0), NONE);
        same("new runOf(0, 0)", x.runOf(0, 0), NONE);
        same("new task(0, 0)", x.task(0, 0), NONE);
        same("new late()", x.late(), 0);
        same("new list(0)", x.list(0), NONE);
        same("new offer(0)", x.offer(0), NONE);
        same("new giveBack(0)", x.giveBack(0), false);
    }

    private static void feed() {
        check.promise(2, "feed");
        TaskHouse x = new TaskHouse();
        for (int n = 20; n <= 300; n += 20) {
            same("feed to " + n, x.feed(0, -1, 2, LOW, HIGH), n);
        }
        same("feed beyond 300", x.feed(1, 2, 3, 4, 5), NONE);
        same("about(6)", x.about(6), 300);
        x.end(281);
        same("feed to 301", x.feed(1, 2, 3, 4, 5), NONE);
        same("about(6)", x.about(6), 281);
        x.end(280);
        same("feed to 300", x.feed(1, 2, 3, 4, 5), 300);
        // The highest byte of a comes first, the lowest of e last.
        TaskHouse y = new TaskHouse();
        y.feed(0x73657420, 0x61203132, 0x3b736574, 0x20622031, 0x333b2020);
        same("'set a 12;set b 13;'", y.business(), 2);
        y.run();
        same("a", y.runOf(0, 0), 12);
        same("b", y.runOf(0, 1), 13);
        y.feed(0x20202020, 0x20202020, 0x20202020, 0x20202020, 0x20202041);
        y.business();
        same("place of the last byte", y.fault(1), 19);
    }

    private static void end() {
        check.promise(3, "end");
        TaskHouse x = new TaskHouse();
        same("end(1) of an empty tape", x.end(1), NONE);
        same("end(0) of an empty tape", x.end(0), 0);
        Check.feed(x, "set a 1; set b 2; x");
        same("end(-1)", x.end(-1), NONE);
        same("end(20)", x.end(20), NONE);
        same("end(LOW)", x.end(LOW), NONE);
        same("end(HIGH)", x.end(HIGH), NONE);
        same("about(6)", x.about(6), 19);
        same("end(19)", x.end(19), 19);
        same("end(9)", x.end(9), 9);
        same("end(10)", x.end(10), NONE);
        Check.feed(x, "set c 3;");
        same("two steps", x.business(), 2);
        x.run();
        same("b", x.runOf(0, 1), 0);
        same("c", x.runOf(0, 2), 3);
    }

    private static void business() {
        check.promise(4, "business");
        TaskHouse x = new TaskHouse();
        same("a business of nothing", x.business(), 0);
        same("about(0)", x.about(0), 0);
        same("about(1)", x.about(1), 0);
        same("its run", x.run(), 0);
        same("is over", x.runOf(0, 4), 1);
        same("do", Check.tell(x, "do ab role 1 due 1; both { set a 1; } { }"), 3);
        same("about(6)", x.about(6), 0);
        same("with a fault", Check.tell(x, "set a 1; set b"), NONE);
        same("about(6)", x.about(6), 0);
        same("the former one stays: steps", x.about(0), 3);
        same("the former one stays: dos", x.about(1), 1);
        same("run of the former one", x.run(), 1);
        same("its task", x.about(5), 1);
        same("names anew in each", Check.tell(x, "do ab role 1 due 1;"), 1);
    }

    private static void fault() {
        check.promise(5, "fault");
        TaskHouse x = new TaskHouse();
        for (int what = -2; what < 4; what++) {
            same("fault ahead of any", x.fault(what), NONE);
        }
        Check.tell(x, "set a 1; do ab role 7");
        same("fault(0)", x.fault(0), 3);
        same("fault(1)", x.fault(1), 20);
        same("fault(2)", x.fault(2), NONE);
        same("fault(-1)", x.fault(-1), NONE);
        same("fault(LOW)", x.fault(LOW), NONE);
        Check.feed(x, "set");
        same("fault stays as bytes come", x.fault(0), 3);
        x.end(0);
        x.business();
        same("fault(0) without", x.fault(0), 0);
        same("fault(1) without", x.fault(1), NONE);
        same("fault(2) without", x.fault(2), NONE);
    }

    private static void person() {
        check.promise(6, "person");
        TaskHouse x = new TaskHouse();
        int[][] others = {{-1, 1}, {64, 1}, {LOW, 1}, {HIGH, 1}, {1, 0}, {1, 10}, {1, -1}, {1, LOW}, {1, HIGH}};
        for (int[] it : others) {
            same("person(" + it[0] + ", " + it[1] + ")", x.person(it[0], it[1]), NONE);
        }
        same("about(2)", x.about(2), 0);
        same("person(0, 1)", x.person(0, 1), 0);
        same("person(63, 9)", x.person(63, 9), 1);
        for (int p = 2; p < 8; p++) {
            same("person", x.person(p, p), p);
        }
        same("the ninth", x.person(1, 1), NONE);
        same("about(2)", x.about(2), 8);
        int[] want = {63, 9, 0, 0, NONE, 0};
        for (int what = 0; what < want.length; what++) {
            same("personOf(1, " + what + ")", x.personOf(1, what), want[what]);
        }
    }

    private static void deputy() {
        check.promise(7, "deputy");
        TaskHouse x = new TaskHouse();
        same("no persons", x.deputy(0, NONE), false);
        x.person(1, 1);
        x.person(2, 1);
        same("itself", x.deputy(0, 0), false);
        same("no such other", x.deputy(0, 2), false);
        same("no such person", x.deputy(2, 0), false);
        same("-1 as person", x.deputy(-1, 0), false);
        same("-1 as both", x.deputy(-1, -1), false);
        same("other -2", x.deputy(0, -2), false);
        same("other LOW", x.deputy(0, LOW), false);
        same("person HIGH", x.deputy(HIGH, 0), false);
        same("none yet", x.personOf(0, 4), NONE);
        same("1 for 0", x.deputy(0, 1), true);
        same("personOf(0, 4)", x.personOf(0, 4), 1);
        same("itself", x.deputy(0, 0), false);
        same("personOf(0, 4) stays", x.personOf(0, 4), 1);
        same("0 for 1", x.deputy(1, 0), true);
        same("none for 0", x.deputy(0, NONE), true);
        same("personOf(0, 4)", x.personOf(0, 4), NONE);
        same("personOf(1, 4)", x.personOf(1, 4), 0);
    }

    private static void away() {
        check.promise(8, "away");
        TaskHouse x = Check.house("both { do ab role 0 due 1; } { both { do cd role 0 due 1; } { do ef role 0 due 1; } }");
        same("no such person", x.away(0, true), false);
        x.person(1, 9);
        x.person(1, 9);
        same("no such person", x.away(2, true), false);
        same("no such person", x.away(-1, false), false);
        x.run();
        x.claim(0, 0);
        x.claim(0, 2);
        x.claim(1, 1);
        same("away", x.away(0, true), true);
        same("personOf(0, 3)", x.personOf(0, 3), 1);
        same("personOf(0, 2)", x.personOf(0, 2), 0);
        same("task 0 is open", x.task(0, 5), 0);
        same("task 0 by nobody", x.task(0, 6), NONE);
        same("task 2 is open", x.task(2, 5), 0);
        same("task 1 is claimed", x.task(1, 5), 1);
        same("task 1 by 1", x.task(1, 6), 1);
        same("away again", x.away(0, true), true);
        same("may not", x.may(0, 0), 0);
        same("claims not", x.claim(0, 0), NONE);
        same("back", x.away(0, false), true);
        same("personOf(0, 3)", x.personOf(0, 3), 0);
        same("its claims are gone", x.personOf(0, 2), 0);
        same("claims anew", x.claim(0, 0), 1);
        x.done(0, NONE, 0);
        x.away(0, true);
        same("what is done stays done", x.task(0, 5), 2);
        same("by 0", x.task(0, 6), 0);
        same("here while it is here", x.away(1, false), true);
        same("claims stay", x.personOf(1, 2), 1);
    }

    private static void stands() {
        check.promise(9, "stands");
        TaskHouse x = new TaskHouse();
        for (int p = 0; p < 8; p++) {
            x.person(0, 1);
        }
        same("stands(0)", x.stands(0), 0);
        same("stands(8)", x.stands(8), NONE);
        same("stands(-1)", x.stands(-1), NONE);
        same("stands(HIGH)", x.stands(HIGH), NONE);
        x.deputy(0, 1);
        same("itself while here", x.stands(0), 0);
        x.away(0, true);
        same("the deputy", x.stands(0), 1);
        x.away(1, true);
        same("the row ends", x.stands(0), NONE);
        x.deputy(1, 2);
        same("deputy's deputy", x.stands(0), 2);
        x.away(2, true);
        x.deputy(2, 1);
        same("comes back to 1", x.stands(0), NONE);
        same("comes back to itself", x.stands(1), NONE);
        x.away(1, false);
        same("1 is back", x.stands(0), 1);
        same("1 is back for 2", x.stands(2), 1);
        for (int p = 0; p < 7; p++) {
            x.away(p, true);
            x.deputy(p, p + 1);
        }
        same("seven on", x.stands(0), 7);
        x.away(7, true);
        same("nobody is here", x.stands(0), NONE);
        x.deputy(7, 0);
        same("all in a ring", x.stands(3), NONE);
        x.away(2, false);
        same("round the ring", x.stands(3), 2);
    }

    private static void hour() {
        check.promise(10, "hour");
        TaskHouse x = new TaskHouse();
        same("hour(-1)", x.hour(-1), false);
        same("hour(0)", x.hour(0), true);
        same("hour(5)", x.hour(5), true);
        same("the same one", x.hour(5), true);
        same("an earlier one", x.hour(4), false);
        same("about(3)", x.about(3), 5);
        same("hour(20001)", x.hour(20001), false);
        same("hour(HIGH)", x.hour(HIGH), false);
        same("hour(LOW)", x.hour(LOW), false);
        same("hour(20000)", x.hour(20000), true);
        same("about(3)", x.about(3), 20000);
        same("hour(20000)", x.hour(20000), true);
        same("hour(19999)", x.hour(19999), false);
    }

    private static void run() {
        check.promise(11, "run");
        TaskHouse x = Check.house("set a 5; do ab role 2 due 3; set a 6;");
        x.hour(10);
        for (int r = 0; r < 8; r++) {
            same("run()", x.run(), r);
            same("its task", x.task(r, 0), r);
        }
        same("the ninth", x.run(), NONE);
        same("about(4)", x.about(4), 8);
        same("about(5)", x.about(5), 8);
        same("a", x.runOf(0, 0), 5);
        same("over", x.runOf(0, 4), 0);
        same("waits", x.runOf(0, 5), 1);
        same("came at", x.task(0, 3), 10);
        same("due", x.task(0, 4), 13);
        TaskHouse y = Check.house("set a 7; set a 8; set d 99;");
        same("run()", y.run(), 0);
        same("over at once", y.runOf(0, 4), 1);
        same("a", y.runOf(0, 0), 8);
        same("d", y.runOf(0, 3), 99);
        same("no tasks", y.about(5), 0);
        for (int r = 1; r < 8; r++) {
            y.run();
        }
        same("runs that are over count too", y.run(), NONE);
    }

    private static void runWays() {
        check.promise(11, "run, both");
        TaskHouse x = Check.house("both { do aa role 0 due 1; do bb role 0 due 1; } "
            + "{ set a 1; both { set b 2; } { do cc role 0 due 1; set c 3; } do dd role 0 due 1; } do ee role 0 due 1; set d 4;");
        x.person(1, 9);
        x.run();
        whichDos(x, "ways at once", 0, 2);
        same("a", x.runOf(0, 0), 1);
        same("b", x.runOf(0, 1), 2);
        same("cc", doIt(x, 0, 1, NONE, 0), 1);
        whichDos(x, "behind the inner both", 0, 2, 3);
        same("c", x.runOf(0, 2), 3);
        same("dd", doIt(x, 0, 2, NONE, 0), 0);
        same("waits for the other way", x.runOf(0, 5), 1);
        same("aa", doIt(x, 0, 0, NONE, 0), 1);
        same("bb", doIt(x, 0, 3, NONE, 0), 1);
        whichDos(x, "behind the both", 0, 2, 3, 1, 4);
        same("d", x.runOf(0, 3), 0);
        same("not over", x.runOf(0, 4), 0);
        same("ee", doIt(x, 0, 4, NONE, 0), 0);
        same("d", x.runOf(0, 3), 4);
        same("over", x.runOf(0, 4), 1);

        // The first way goes as far as it can ahead of the second, the whole of an inner both too.
        TaskHouse y = Check.house("both { both { set a 1; } { set b 1; } set c 1; do aa role 0 due 1; } "
            + "{ if c < 1 { do bb role 0 due 1; } else { do cc role 0 due 1; } } ");
        y.run();
        whichDos(y, "order of the ways", 0, 2);

        TaskHouse z = Check.house("both { } { } both { set a 1; } { } both { } { set b 1; } set c 1;");
        z.run();
        same("empty ways are at their ends", z.runOf(0, 4), 1);
        same("c", z.runOf(0, 2), 1);
    }

    private static void runChoices() {
        check.promise(11, "run, if");
        String text = "do aa role 0 due 1; if b < 50 { do bb role 0 due 1; } else { do cc role 0 due 1; set a 1; } set c 9;";
        int[] values = {0, 49, 50, 99};
        for (int value : values) {
            TaskHouse x = Check.house(text);
            x.person(1, 9);
            x.run();
            same("aa", doIt(x, 0, 0, 1, value), 1);
            whichDos(x, "if " + value + " < 50", 0, value < 50 ? 1 : 2);
            same("the other one", doIt(x, 0, 1, NONE, 0), 0);
            same("over", x.runOf(0, 4), 1);
            same("a", x.runOf(0, 0), value < 50 ? 0 : 1);
            same("c", x.runOf(0, 2), 9);
        }
        TaskHouse y = Check.house("if d < 0 { set a 1; } else { set a 2; } if d < 1 { set b 1; } else { set b 2; }");
        y.run();
        same("0 isn't below 0", y.runOf(0, 0), 2);
        same("0 is below 1", y.runOf(0, 1), 1);
    }

    private static void runAgain() {
        check.promise(11, "run, again");
        TaskHouse x = Check.house("set a 9; again a < 5 { set b 1; do aa role 0 due 1; } do bb role 0 due 1;");
        x.person(1, 9);
        x.run();
        whichDos(x, "once whatever the field", 0);
        same("4 is below 5", doIt(x, 0, 0, 0, 4), 1);
        whichDos(x, "again", 0, 0);
        same("stays 4", doIt(x, 0, 1, NONE, 0), 1);
        same("5 isn't", doIt(x, 0, 2, 0, 5), 1);
        whichDos(x, "behind it", 0, 0, 0, 1);
        same("over", doIt(x, 0, 3, NONE, 0), 0);
        same("over", x.runOf(0, 4), 1);

        TaskHouse y = Check.house("again a < 1 { both { do aa role 0 due 1; set b 1; } { do bb role 0 due 1; } } set d 1;");
        y.person(1, 9);
        y.run();
        same("aa", doIt(y, 0, 0, NONE, 0), 0);
        same("bb", doIt(y, 0, 1, NONE, 0), 2);
        whichDos(y, "both again", 0, 1, 0, 1);
        same("bb", doIt(y, 0, 3, 0, 1), 0);
        same("aa", doIt(y, 0, 2, NONE, 0), 0);
        same("over", y.runOf(0, 4), 1);
        same("d", y.runOf(0, 3), 1);

        TaskHouse z = Check.house("again a < 1 { again b < 1 { do aa role 0 due 1; } do bb role 0 due 1; }");
        z.person(1, 9);
        z.run();
        doIt(z, 0, 0, NONE, 0);
        doIt(z, 0, 1, 1, 1);
        doIt(z, 0, 2, NONE, 0);
        doIt(z, 0, 3, NONE, 0);
        whichDos(z, "again in again", 0, 0, 1, 0, 1);
        doIt(z, 0, 4, 0, 1);
        same("over", z.runOf(0, 4), 1);
    }

    private static void runsKeepTheirBusiness() {
        check.promise(11, "run, of the business that is there");
        TaskHouse x = Check.house("do aa role 0 due 1; do bb role 1 due 2; set a 1;");
        x.person(63, 9);
        x.run();
        same("another one", Check.tell(x, "do cc role 2 due 3; do dd role 3 due 4 eyes cc; set b 1;"), 3);
        same("run()", x.run(), 1);
        same("one with a fault", Check.tell(x, "do cc role 4 due 5; do dd role 5 due 6; set c"), NONE);
        same("and one more", Check.tell(x, "set c 1;"), 1);
        same("run()", x.run(), 2);
        same("0 goes on by its own", doIt(x, 0, 0, NONE, 0), 1);
        same("role of bb", x.task(2, 2), 1);
        same("1 goes on by its own", doIt(x, 0, 1, NONE, 0), 1);
        same("role of dd", x.task(3, 2), 3);
        same("eyes of dd", x.may(0, 3), 0);
        same("no eyes of bb", x.may(0, 2), 1);
        doIt(x, 0, 2, NONE, 0);
        same("a of 0", x.runOf(0, 0), 1);
        same("b of 0", x.runOf(0, 1), 0);
        same("c of 2", x.runOf(2, 2), 1);
    }

    /** A house of 200 tasks less those left, all but the last one done, within some 400 calls. */
    private static TaskHouse nearlyFull(int left) {
        TaskHouse x = Check.house("again a < 1 { do zz role 0 due 1; }");
        x.person(1, 9);
        x.run();
        for (int t = 0; t < 199 - left; t++) {
            doIt(x, 0, t, NONE, 0);
        }
        return x;
    }

    private static void runFull() {
        check.promise(11, "run, of a full house");
        TaskHouse x = nearlyFull(2);
        Check.tell(x, "set a 1; both { do aa role 0 due 1; } { both { do bb role 0 due 1; } { do cc role 0 due 1; } }");
        same("201 would be", x.run(), NONE);
        same("no run began", x.about(4), 1);
        same("no task came", x.about(5), 198);
        same("runOf(1, 0)", x.runOf(1, 0), NONE);
        Check.tell(x, "both { do aa role 0 due 1; } { do bb role 0 due 1; }");
        same("200 are", x.run(), 1);
        same("about(5)", x.about(5), 200);
        same("task(199, 1)", x.task(199, 1), 1);
        same("task(200, 1)", x.task(200, 1), NONE);
        same("another one", x.run(), NONE);
        Check.tell(x, "set a 1;");
        same("one without tasks", x.run(), 2);
    }

    private static void runOf() {
        check.promise(12, "runOf");
        TaskHouse x = Check.house("set a 1; set b 2; set c 3; set d 4; both { do aa role 0 due 1; } { do bb role 0 due 1; }");
        x.person(1, 9);
        x.run();
        x.run();
        int[] want = {1, 2, 3, 4, 0, 2};
        for (int what = 0; what < want.length; what++) {
            same("runOf(0, " + what + ")", x.runOf(0, what), want[what]);
        }
        x.claim(0, 0);
        same("a claimed one isn't done", x.runOf(0, 5), 2);
        x.done(0, 2, 50);
        same("one is done", x.runOf(0, 5), 1);
        same("c of 0", x.runOf(0, 2), 50);
        same("c of 1", x.runOf(1, 2), 3);
        same("1 has both", x.runOf(1, 5), 2);
        doIt(x, 0, 1, NONE, 0);
        same("0 is over", x.runOf(0, 4), 1);
        same("0 has none", x.runOf(0, 5), 0);
        same("1 isn't over", x.runOf(1, 4), 0);
        int[] others = {-1, 6, LOW, HIGH};
        for (int other : others) {
            same("runOf(0, " + other + ")", x.runOf(0, other), NONE);
        }
        int[] noRuns = {-1, 2, 8, LOW, HIGH};
        for (int no : noRuns) {
            same("runOf(" + no + ", 0)", x.runOf(no, 0), NONE);
        }
    }

    private static void taskIs(TaskHouse x, int t, int... want) {
        for (int what = 0; what < want.length; what++) {
            same("task(" + t + ", " + what + ")", x.task(t, what), want[what]);
        }
    }

    private static void task() {
        check.promise(13, "task");
        TaskHouse x = Check.house("if a < 0 { do aa role 1 due 1; } else { do bb role 5 due 9; } do cc role 0 due 99;");
        x.person(33, 9);
        x.hour(8);
        x.run();
        x.run();
        taskIs(x, 0, 0, 1, 5, 8, 34, 0, NONE, NONE);
        taskIs(x, 1, 1, 1, 5, 8, 34, 0, NONE, NONE);
        x.hour(40);
        x.claim(0, 1);
        taskIs(x, 1, 1, 1, 5, 8, 34, 1, 0, NONE);
        x.hour(41);
        x.done(1, NONE, 0);
        taskIs(x, 1, 1, 1, 5, 8, 34, 2, 0, 41);
        taskIs(x, 2, 1, 2, 0, 41, 2 * 168 + 4 * 24 + 12, 0, NONE, NONE);
        int[] others = {-1, 8, LOW, HIGH};
        for (int other : others) {
            same("task(0, " + other + ")", x.task(0, other), NONE);
        }
        int[] noTasks = {-1, 3, 200, LOW, HIGH};
        for (int no : noTasks) {
            same("task(" + no + ", 0)", x.task(no, 0), NONE);
        }
    }

    private static void may() {
        check.promise(14, "may");
        TaskHouse x = Check.house("do aa role 3 due 1;");
        x.person(8, 1);
        x.person(55, 1);
        x.person(63, 1);
        x.run();
        same("has the role", x.may(0, 0), 1);
        same("has all but that", x.may(1, 0), 0);
        same("has all", x.may(2, 0), 1);
        same("no such person", x.may(3, 0), NONE);
        same("no such person", x.may(-1, 0), NONE);
        same("no such task", x.may(0, 1), NONE);
        same("no such task", x.may(0, -1), NONE);
        same("no such ones", x.may(HIGH, LOW), NONE);
        x.deputy(0, 1);
        same("a deputy of one that is here", x.may(1, 0), 0);
        x.away(0, true);
        same("one who is away", x.may(0, 0), 0);
        same("stands in", x.may(1, 0), 1);
        x.away(1, true);
        same("is away as well", x.may(1, 0), 0);
        x.deputy(1, 2);
        x.away(2, true);
        x.person(0, 1);
        x.deputy(2, 3);
        same("stands in for all three", x.may(3, 0), 1);
        x.away(1, false);
        same("the first that is here stands in", x.may(1, 0), 1);
        same("3 stands in for 2 still", x.may(3, 0), 1);
        x.away(2, false);
        same("3 stands in for nobody", x.may(3, 0), 0);
        same("1 for 0", x.may(1, 0), 1);
        x.claim(2, 0);
        same("a claimed one", x.may(1, 0), 1);
        x.done(0, NONE, 0);
        same("a done one", x.may(1, 0), 1);
    }

    private static void mayEyes() {
        check.promise(14, "may, four eyes");
        TaskHouse x = Check.house("both { do aa role 0 due 1; } { do bb role 0 due 1 eyes aa; } do cc role 0 due 1 eyes bb;");
        x.person(1, 9);
        x.person(1, 9);
        x.run();
        x.run();
        same("not done yet", x.may(0, 1), 1);
        x.claim(0, 0);
        same("claimed only", x.may(0, 1), 1);
        x.done(0, NONE, 0);
        same("0 did it", x.may(0, 1), 0);
        same("claim(0, 1)", x.claim(0, 1), NONE);
        same("1 did not", x.may(1, 1), 1);
        same("another run", x.may(0, 3), 1);
        doIt(x, 1, 1, NONE, 0);
        same("cc by 0", x.may(0, 4), 1);
        same("cc by 1", x.may(1, 4), 0);

        // Who did it last counts, and a do may have eyes on itself.
        TaskHouse y = Check.house("again a < 1 { do aa role 0 due 1 eyes aa; do bb role 0 due 1 eyes aa; }");
        y.person(1, 9);
        y.person(1, 9);
        y.run();
        same("the first time", y.may(0, 0), 1);
        doIt(y, 0, 0, NONE, 0);
        same("bb by 0", y.may(0, 1), 0);
        doIt(y, 1, 1, NONE, 0);
        same("aa by 0", y.may(0, 2), 0);
        doIt(y, 1, 2, NONE, 0);
        same("bb by 0", y.may(0, 3), 1);
        same("bb by 1", y.may(1, 3), 0);

        // One who claimed ahead may do it all the same.
        TaskHouse z = Check.house("both { do aa role 0 due 1; } { do bb role 0 due 1 eyes aa; }");
        z.person(1, 9);
        z.run();
        z.claim(0, 0);
        z.claim(0, 1);
        same("aa", z.done(0, NONE, 0), 0);
        same("may not", z.may(0, 1), 0);
        same("is done by who claimed it", z.done(1, NONE, 0), 0);
        same("by 0", z.task(1, 6), 0);
    }

    private static void claim() {
        check.promise(15, "claim");
        TaskHouse x = Check.house("both { both { do aa role 0 due 1; } { do bb role 0 due 1; } } { do cc role 1 due 1; }");
        x.person(3, 2);
        x.person(1, 9);
        x.run();
        same("no such person", x.claim(2, 0), NONE);
        same("no such person", x.claim(-1, 0), NONE);
        same("no such task", x.claim(0, 3), NONE);
        same("no such task", x.claim(0, -1), NONE);
        same("may not", x.claim(1, 2), NONE);
        same("first", x.claim(0, 2), 1);
        same("isn't open", x.claim(0, 2), NONE);
        same("second", x.claim(0, 0), 2);
        same("isn't open", x.claim(1, 0), NONE);
        same("load", x.claim(0, 1), NONE);
        same("still open", x.task(1, 5), 0);
        same("another one", x.claim(1, 1), 1);
        same("by whom", x.task(1, 6), 1);
        x.done(0, NONE, 0);
        same("done isn't open", x.claim(1, 0), NONE);
        same("personOf(0, 2)", x.personOf(0, 2), 1);
        x.run();
        same("load is free again", x.claim(0, 3), 2);
        x.giveBack(2);
        same("by giving back too", x.claim(0, 4), 2);
    }

    private static void giveBack() {
        check.promise(16, "giveBack");
        TaskHouse x = Check.house("do aa role 0 due 1;");
        x.person(1, 1);
        x.run();
        same("an open one", x.giveBack(0), false);
        same("no such task", x.giveBack(1), false);
        same("no such task", x.giveBack(-1), false);
        same("no such task", x.giveBack(HIGH), false);
        x.claim(0, 0);
        same("a claimed one", x.giveBack(0), true);
        same("is open", x.task(0, 5), 0);
        same("by nobody", x.task(0, 6), NONE);
        same("claims", x.personOf(0, 2), 0);
        same("once only", x.giveBack(0), false);
        same("claimed again", x.claim(0, 0), 1);
        x.done(0, NONE, 0);
        same("a done one", x.giveBack(0), false);
        same("is done", x.task(0, 5), 2);
    }

    private static void done() {
        check.promise(17, "done");
        TaskHouse x = Check.house("do aa role 0 due 1; if d < 99 { both { do bb role 0 due 1; } { do cc role 0 due 1; } } else { }");
        x.person(1, 9);
        x.run();
        same("an open one", x.done(0, NONE, 0), NONE);
        same("no such task", x.done(1, NONE, 0), NONE);
        same("no such task", x.done(-1, NONE, 0), NONE);
        x.claim(0, 0);
        int[][] others = {{-2, 0}, {4, 0}, {LOW, 0}, {HIGH, 0}, {0, -1}, {3, 100}, {0, LOW}, {0, HIGH}};
        for (int[] it : others) {
            same("done(0, " + it[0] + ", " + it[1] + ")", x.done(0, it[0], it[1]), NONE);
        }
        same("is claimed", x.task(0, 5), 1);
        same("fields as they were", x.runOf(0, 0) + x.runOf(0, 3), 0);
        same("with a field", x.done(0, 3, 98), 2);
        same("d", x.runOf(0, 3), 98);
        same("is done", x.task(0, 5), 2);
        same("by 0", x.task(0, 6), 0);
        same("claims", x.personOf(0, 2), 0);
        same("done by it", x.personOf(0, 5), 1);
        same("a done one", x.done(0, NONE, 0), NONE);
        same("none came", doIt(x, 0, 1, 0, 0), 0);
        same("none came", doIt(x, 0, 2, 0, 99), 0);
        same("a", x.runOf(0, 0), 99);
        same("over", x.runOf(0, 4), 1);
        for (int field = 0; field < 4; field++) {
            x.run();
            int t = x.about(5) - 1;
            doIt(x, 0, t, field, 99);
            for (int other = 0; other < 4; other++) {
                same("field " + other, x.runOf(field + 1, other), other == field ? 99 : 0);
            }
        }
    }

    /** Without a field no value is put, so that no value is a wrong one. */
    private static void doneWithoutField() {
        check.promise(17, "done, without a field");
        int[] values = {0, 99, -1, 100, LOW, HIGH};
        for (int value : values) {
            TaskHouse x = Check.house("do aa role 0 due 1; do bb role 0 due 1;");
            x.person(1, 1);
            x.run();
            x.claim(0, 0);
            same("done(0, -1, " + value + ")", x.done(0, NONE, value), 1);
            same("is done", x.task(0, 5), 2);
            same("done by it", x.personOf(0, 5), 1);
            same("not again", x.done(0, 0, 1), NONE);
            for (int field = 0; field < 4; field++) {
                same("field " + field, x.runOf(0, field), 0);
            }
            x.claim(0, 1);
            same("a wrong field", x.done(1, -2, value), NONE);
            same("a wrong field", x.done(1, 4, value), NONE);
            same("still claimed", x.task(1, 5), 1);
        }
    }

    private static void doneFull() {
        check.promise(17, "done, in a full house");
        TaskHouse x = nearlyFull(3);
        Check.tell(x, "do aa role 0 due 1; set c 7; both { do bb role 0 due 1; } { both { do cc role 0 due 1; } { do dd role 0 due 1; } }");
        same("run()", x.run(), 1);
        x.claim(0, 197);
        same("201 would be", x.done(197, 1, 5), NONE);
        same("still claimed", x.task(197, 5), 1);
        same("not done at", x.task(197, 7), NONE);
        same("b as it was", x.runOf(1, 1), 0);
        same("c as it was", x.runOf(1, 2), 0);
        same("waits", x.runOf(1, 5), 1);
        same("claims", x.personOf(0, 2), 1);
        same("done by it", x.personOf(0, 5), 196);
        same("about(5)", x.about(5), 198);
        same("given back", x.giveBack(197), true);
        same("one more of the first run", doIt(x, 0, 196, NONE, 0), 1);
        same("199", x.about(5), 199);
        same("the last one", doIt(x, 0, 198, NONE, 0), 1);
        same("200", x.about(5), 200);
        same("claim", x.claim(0, 199), 1);
        same("no more", x.done(199, NONE, 0), NONE);
        same("but the end of it", x.done(199, 0, 1), 0);
        same("over", x.runOf(0, 4), 1);
    }

    private static void list() {
        check.promise(18, "list");
        TaskHouse x = Check.house("both { do aa role 0 due 1; } { both { do bb role 1 due 1; } { do cc role 0 due 1 eyes bb; } }");
        x.person(1, 9);
        x.person(3, 1);
        same("no tasks", x.list(0), 0);
        x.run();
        same("list(0)", x.list(0), 2);
        same("list(1)", x.list(1), 3);
        same("no such person", x.list(2), NONE);
        same("no such person", x.list(-1), NONE);
        same("no such person", x.list(LOW), NONE);
        x.claim(1, 1);
        same("whatever the load", x.list(1), 2);
        x.done(1, NONE, 0);
        same("eyes", x.list(1), 1);
        same("no eyes", x.list(0), 2);
        x.deputy(1, 0);
        x.away(1, true);
        same("who is away", x.list(1), 0);
        x.run();
        same("who stands in", x.list(0), 5);
    }

    private static void listed() {
        check.promise(19, "listed");
        TaskHouse x = Check.house("both { do aa role 0 due 9; } { both { do bb role 0 due 8; } { do cc role 1 due 1; } }");
        x.person(1, 9);
        x.person(3, 9);
        x.run();
        x.hour(17);
        x.run();
        int[] all = {2, 1, 0, 5, 4, 3};
        for (int i = 0; i < all.length; i++) {
            same("listed(1, " + i + ")", x.listed(1, i), all[i]);
        }
        same("due of 0", x.task(0, 4), 34);
        same("due of 5 is like it", x.task(5, 4), 34);
        int[] some = {1, 0, 4, 3};
        for (int i = 0; i < some.length; i++) {
            same("listed(0, " + i + ")", x.listed(0, i), some[i]);
        }
        same("behind the last", x.listed(0, 4), NONE);
        same("behind the last", x.listed(1, 6), NONE);
        same("i below 0", x.listed(1, -1), NONE);
        same("i HIGH", x.listed(1, HIGH), NONE);
        same("i LOW", x.listed(1, LOW), NONE);
        same("no such person", x.listed(2, 0), NONE);
        same("no such person", x.listed(-1, 0), NONE);
        x.claim(0, 0);
        same("0 isn't open", x.listed(1, 2), 5);
        x.giveBack(0);
        same("0 is open", x.listed(1, 2), 0);
        x.away(0, true);
        same("who is away", x.listed(0, 0), NONE);
    }

    private static void offer() {
        check.promise(20, "offer");
        TaskHouse x = Check.house("both { both { do aa role 0 due 1; } { do bb role 0 due 1; } } { both { do cc role 0 due 1; } { do dd role 1 due 1; } }");
        x.run();
        same("no persons", x.offer(0), NONE);
        x.person(1, 1);
        x.person(1, 2);
        x.person(1, 2);
        same("the lowest", x.offer(0), 0);
        same("nobody may", x.offer(3), NONE);
        same("no such task", x.offer(4), NONE);
        same("no such task", x.offer(-1), NONE);
        x.claim(0, 0);
        same("isn't open", x.offer(0), NONE);
        same("0 has its load", x.offer(1), 1);
        x.claim(1, 1);
        same("the fewest", x.offer(2), 2);
        x.away(2, true);
        same("2 is away", x.offer(2), 1);
        x.run();
        x.claim(1, 4);
        same("all have their loads", x.offer(2), NONE);
        x.away(2, false);
        x.claim(2, 5);
        same("2 has room for one", x.offer(2), 2);
        x.done(0, NONE, 0);
        same("0 has none again", x.offer(2), 0);
        same("done isn't open", x.offer(0), NONE);
        x.deputy(2, 1);
        x.person(2, 1);
        x.deputy(3, 1);
        same("has the role", x.offer(3), 3);
        x.giveBack(1);
        x.away(3, true);
        same("stands in", x.offer(3), 1);
    }

    private static void late() {
        check.promise(21, "late");
        TaskHouse x = Check.house("both { do aa role 0 due 1; } { do bb role 0 due 2; }");
        x.person(1, 9);
        x.run();
        x.hour(10);
        same("due is 10", x.late(), 0);
        x.hour(11);
        same("10 is below 11", x.late(), 1);
        x.claim(0, 0);
        same("a claimed one is late", x.late(), 1);
        x.hour(12);
        same("both", x.late(), 2);
        x.done(0, NONE, 0);
        same("a done one isn't", x.late(), 1);
        x.run();
        same("new ones aren't", x.late(), 1);
        x.hour(20000);
        same("all but the done one", x.late(), 3);
    }

    private static void personOf() {
        check.promise(22, "personOf");
        TaskHouse x = Check.house("again a < 9 { do aa role 5 due 1; }");
        x.person(32, 3);
        x.person(7, 4);
        x.run();
        doIt(x, 0, 0, NONE, 0);
        doIt(x, 0, 1, NONE, 0);
        x.claim(0, 2);
        x.deputy(0, 1);
        int[] want = {32, 3, 1, 0, 1, 2};
        for (int what = 0; what < want.length; what++) {
            same("personOf(0, " + what + ")", x.personOf(0, what), want[what]);
        }
        int[] other = {7, 4, 0, 0, NONE, 0};
        for (int what = 0; what < other.length; what++) {
            same("personOf(1, " + what + ")", x.personOf(1, what), other[what]);
        }
        x.away(0, true);
        same("claims", x.personOf(0, 2), 0);
        same("away", x.personOf(0, 3), 1);
        same("done ones stay", x.personOf(0, 5), 2);
        int[] others = {-1, 6, LOW, HIGH};
        for (int it : others) {
            same("personOf(0, " + it + ")", x.personOf(0, it), NONE);
            same("personOf(" + it + ", 0)", x.personOf(it, 0), NONE);
        }
        same("personOf(2, 0)", x.personOf(2, 0), NONE);
    }

    private static boolean isWorking(int hour) {
        return hour / 24 % 7 <= 4 && hour % 24 >= 9 && hour % 24 <= 16;
    }

    private static void due() {
        check.promise(23, "due");
        for (int hour = 0; hour <= 400; hour++) {
            // An object is good for 512 calls.
            TaskHouse fresh = new TaskHouse();
            int at = hour;
            for (int n = 1; n <= 99; n++) {
                while (!isWorking(at)) {
                    at++;
                }
                at++;
                same("due(" + hour + ", " + n + ")", fresh.due(hour, n), at);
            }
        }
        TaskHouse x = new TaskHouse();
        // 20000 is a Monday's eighth hour (20000 = 119 * 168 + 8).
        same("due(20000, 1)", x.due(20000, 1), 20002);
        same("due(20000, 99)", x.due(20000, 99), 121 * 168 + 2 * 24 + 12);
        int[][] others = {{-1, 1}, {20001, 1}, {LOW, 1}, {HIGH, 1}, {0, 0}, {0, 100}, {0, -1}, {0, LOW}, {0, HIGH}};
        for (int[] it : others) {
            same("due(" + it[0] + ", " + it[1] + ")", x.due(it[0], it[1]), NONE);
        }
        same("the clock stays", x.about(3), 0);
    }

    private static void about() {
        check.promise(24, "about");
        TaskHouse x = Check.house("both { do aa role 0 due 1; } { do bb role 0 due 1; } set a 1;");
        x.person(1, 1);
        x.person(1, 1);
        x.person(1, 1);
        x.hour(77);
        x.run();
        x.run();
        Check.feed(x, "set a 1; set b 2; set c 3;");
        int[] want = {4, 2, 3, 77, 2, 4, 26};
        for (int what = 0; what < want.length; what++) {
            same("about(" + what + ")", x.about(what), want[what]);
        }
        int[] others = {-1, 7, LOW, HIGH};
        for (int other : others) {
            same("about(" + other + ")", x.about(other), NONE);
        }
    }
}
