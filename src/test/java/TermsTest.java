/**
 * The sentences of the document's section 'Terms' on runs, hours, tasks and persons, in their order, each with a
 * test of its own under the number of the promise it is seen by; those on the language are in FaultTest.
 */
public final class TermsTest {
    private static final int NONE = TaskHouse.NONE;
    private static final int LAST_HOUR = 20000;
    private static final Check check = new Check("TermsTest");
    private static final String ONE = "do aa role 0 due 1;";

    public static void main(String[] args) {
        runsAreEight();
        runsKeepTheirBusiness();
        fieldsAreNothingAtFirst();
        runWaits();
        fieldsAreSet();
        firstWayGoesFirst();
        waysEnd();
        choices();
        agains();
        runsEnd();
        hours();
        everyHour();
        tasksAreTwoHundred();
        tasksAreDue();
        everyPerson();
        rows();
        everyRole();
        standingIn();
        fourEyes();
        states();
        everyLoad();
        goingAway();
        listsByDue();
        offers();
        check.finish();
    }

    private static void runsAreEight() {
        check.promise(11, "Terms: RUNS 0 .. 7 of the BUSINESS that is there as one begins.");
        Tale x = Tale.of(check, ONE);
        for (int r = 0; r < 8; r++) {
            x.is("run()", r, TaskHouse::run);
        }
        x.none("the ninth", TaskHouse::run);
        x.is("run of task 7", 7, h -> h.task(7, 0));
        x.is("tasks", 8, h -> h.about(5));
    }

    private static void runsKeepTheirBusiness() {
        check.promise(11, "Terms: RUNS 0 .. 7 of the BUSINESS that is there as one begins.");
        Tale x = Tale.of(check, "do aa role 0 due 1; do bb role 0 due 1; do cc role 0 due 1; set a 1;");
        x.call(h -> h.person(63, 9));
        x.call(TaskHouse::run);
        check.same("a shorter one", x.tell("do dd role 5 due 9; set b 2;"), 2);
        x.call(TaskHouse::run);
        x.is("one of nothing", 0, TaskHouse::business);
        x.call(TaskHouse::run);
        x.over(2, 1);
        x.does(0, 0, NONE, 0, 1);
        x.does(0, 1, NONE, 0, 0);
        x.does(0, 2, NONE, 0, 1);
        x.does(0, 3, NONE, 0, 0);
        x.whichDos("each by its own", 0, 0, 1, 2);
        x.is("role of the second run's task", 5, h -> h.task(1, 2));
        x.is("a of 0", 1, h -> h.runOf(0, 0));
        x.is("b of 0", 0, h -> h.runOf(0, 1));
        x.is("b of 1", 2, h -> h.runOf(1, 1));
    }

    private static void fieldsAreNothingAtFirst() {
        check.promise(12, "Terms: FIELDS of a RUN: 0 at first.");
        Tale x = Tale.running(check, "do aa role 0 due 1; set a 5; set b 6; set c 7; do bb role 0 due 1;", 9);
        x.row("field", what -> h -> h.runOf(0, what), 0, 0, 0, 0, 0, 1);
        x.does(0, 0, 3, 99, 1);
        x.row("field", what -> h -> h.runOf(0, what), 5, 6, 7, 99, 0, 1);
        x.call(TaskHouse::run);
        x.row("field of the next run", what -> h -> h.runOf(1, what), 0, 0, 0, 0, 0, 1);
        x.row("field", what -> h -> h.runOf(0, what), 5, 6, 7, 99, 0, 1);
    }

    private static void runWaits() {
        check.promise(11, "Terms: do: a TASK comes, and it waits there till that is DONE");
        Tale x = Tale.running(check, "do aa role 0 due 1; set a 7; do bb role 0 due 1; set b 8;", 9);
        x.whichDos("at the first do", 0);
        x.is("a", 0, h -> h.runOf(0, 0));
        x.call(h -> h.claim(0, 0));
        x.sure(h -> h.hour(LAST_HOUR));
        x.is("neither claims nor hours let it go on", 1, h -> h.about(5));
        x.is("done", 1, h -> h.done(0, NONE, 0));
        x.whichDos("at the second do", 0, 1);
        x.is("a", 7, h -> h.runOf(0, 0));
        x.is("b", 0, h -> h.runOf(0, 1));
        x.over(0, 0);
        x.does(0, 1, NONE, 0, 0);
        x.is("b", 8, h -> h.runOf(0, 1));
        x.over(0, 1);
    }

    private static void fieldsAreSet() {
        check.promise(11, "Terms: set: the FIELD becomes that");
        Tale x = Tale.of(check, "set a 99; set b 0; set c 1; set c 2; set d 98; set d 0;");
        x.is("run()", 0, TaskHouse::run);
        x.row("field", what -> h -> h.runOf(0, what), 99, 0, 2, 0, 1, 0);
        Tale y = Tale.running(check, "do aa role 0 due 1; set a 0;", 9);
        y.does(0, 0, 0, 99, 0);
        y.is("what was put is set behind it", 0, h -> h.runOf(0, 0));
    }

    private static void firstWayGoesFirst() {
        check.promise(11, "Terms: both: it goes both ways, the first as far as it can, then the second one");
        Tale x = Tale.of(check, "both { set a 1; do aa role 0 due 1; set a 2; } "
            + "{ if a < 2 { if a < 1 { do bb role 0 due 1; } else { do cc role 0 due 1; } } else { do dd role 0 due 1; } }");
        x.call(TaskHouse::run);
        x.whichDos("the second one sees a = 1", 0, 2);
        Tale y = Tale.of(check, "both { both { both { both { do aa role 0 due 1; } { do bb role 0 due 1; } }"
            + " { do cc role 0 due 1; } } { do dd role 0 due 1; } } { do ee role 0 due 1; }");
        y.call(TaskHouse::run);
        y.whichDos("four open, the first ones", 0, 1, 2, 3, 4);
        Tale z = Tale.of(check, "both { do aa role 0 due 1; } { both { do bb role 0 due 1; }"
            + " { both { do cc role 0 due 1; } { both { do dd role 0 due 1; } { do ee role 0 due 1; } } } }");
        z.call(TaskHouse::run);
        z.whichDos("four open, the second ones", 0, 1, 2, 3, 4);
        Tale w = Tale.of(check, "both { both { set a 1; } { set b 1; } set c 1; do aa role 0 due 1; } "
            + "{ if c < 1 { do bb role 0 due 1; } else { do cc role 0 due 1; } }");
        w.call(TaskHouse::run);
        w.whichDos("behind an inner both that is at its end", 0, 2);
    }

    private static void waysEnd() {
        check.promise(17, "Terms: behind them it goes on as soon as both ways are at their ends");
        int[][] orders = {{0, 1, 2}, {0, 2, 1}, {1, 0, 2}, {1, 2, 0}, {2, 0, 1}, {2, 1, 0}};
        for (int[] order : orders) {
            Tale x = Tale.running(check, "both { both { do aa role 0 due 1; } { do bb role 0 due 1; } set a 1; } "
                + "{ do cc role 0 due 1; } do dd role 0 due 1; set b 1;", 9);
            x.does(0, order[0], NONE, 0, 0);
            x.is("a after one", 0, h -> h.runOf(0, 0));
            x.does(0, order[1], NONE, 0, 0);
            x.is("a after two", order[2] == 2 ? 1 : 0, h -> h.runOf(0, 0));
            x.over(0, 0);
            x.does(0, order[2], NONE, 0, 1);
            x.is("a after three", 1, h -> h.runOf(0, 0));
            x.whichDos("behind the both", 0, 1, 2, 3);
            x.does(0, 3, NONE, 0, 0);
            x.is("b", 1, h -> h.runOf(0, 1));
            x.over(0, 1);
        }
        String[] ends = {"both { } { }", "both { set a 1; } { }", "both { } { set a 1; }", "both { both { } { } } { both { } { } }"};
        for (String text : ends) {
            Tale x = Tale.of(check, text + " set d 9;");
            x.call(TaskHouse::run);
            x.is("behind '" + text + "'", 9, h -> h.runOf(0, 3));
            x.over(0, 1);
        }
        Tale first = Tale.running(check, "both { } { do aa role 0 due 1; } set d 9;", 9);
        first.is("the second way isn't at its end", 0, h -> h.runOf(0, 3));
        first.does(0, 0, NONE, 0, 0);
        first.over(0, 1);
        Tale second = Tale.running(check, "both { do aa role 0 due 1; } { } set d 9;", 9);
        second.is("the first way isn't at its end", 0, h -> h.runOf(0, 3));
        second.does(0, 0, NONE, 0, 0);
        second.over(0, 1);
        // As many as a text has room for.
        Tale most = Tale.of(check, "both{}{}".repeat(36) + "set d9;");
        most.call(TaskHouse::run);
        most.is("behind 36 of them", 9, h -> h.runOf(0, 3));
        most.over(0, 1);
    }

    private static void choices() {
        check.promise(11, "Terms: if: the first STEPS if the FIELD is below the NUMBER, else the others");
        int[][] cases = {{0, 0}, {0, 1}, {1, 0}, {1, 1}, {49, 50}, {50, 50}, {51, 50}, {98, 99}, {99, 99}};
        for (int[] it : cases) {
            String text = "set b " + it[0] + "; if b < " + it[1] + " { set c 1; } else { set c 2; set d 1; } set a 9;";
            Tale x = Tale.of(check, text);
            x.call(TaskHouse::run);
            x.is("c by '" + text + "'", it[0] < it[1] ? 1 : 2, h -> h.runOf(0, 2));
            x.is("d by '" + text + "'", it[0] < it[1] ? 0 : 1, h -> h.runOf(0, 3));
            x.is("a by '" + text + "'", 9, h -> h.runOf(0, 0));
        }
    }

    private static void agains() {
        check.promise(17, "Terms: again: the STEPS once, and again as long as the FIELD is below the NUMBER behind them.");
        int[][] cases = {{0, 0}, {0, 1}, {1, 1}, {49, 50}, {50, 50}, {98, 99}, {99, 99}};
        for (int[] it : cases) {
            // Once it is gone through though the field is too high; then what it is behind the steps counts.
            Tale x = Tale.running(check, "set b 99; again b < " + it[1] + " { do aa role 0 due 1; set c 1; } do bb role 0 due 1;", 9);
            x.whichDos("once", 0);
            x.does(0, 0, 1, it[0], 1);
            x.whichDos(it[0] + " < " + it[1], 0, it[0] < it[1] ? 0 : 1);
        }
        Tale y = Tale.running(check, "again a < 5 { do aa role 0 due 1; set a 5; }", 9);
        y.does(0, 0, 0, 0, 0);
        y.over(0, 1);
        Tale z = Tale.running(check, "again a < 5 { set a 5; do aa role 0 due 1; }", 9);
        z.does(0, 0, 0, 4, 1);
        z.does(0, 1, NONE, 0, 0);
        z.over(0, 1);
        Tale both = Tale.running(check, "again a < 1 { both { do aa role 0 due 1; } { set b 1; } }", 9);
        both.does(0, 0, NONE, 0, 1);
        both.does(0, 1, NONE, 0, 1);
        both.does(0, 2, 0, 1, 0);
        both.over(0, 1);
        Tale four = Tale.running(check, "again a<1{again a<1{again a<1{again a<1{do aa role 0 due 1;}}}}", 9);
        four.does(0, 0, 1, 1, 1);
        four.does(0, 1, 0, 1, 0);
        four.over(0, 1);
    }

    private static void runsEnd() {
        check.promise(12, "Terms: Behind the last STEP the RUN is OVER.");
        Tale x = new Tale(check);
        x.is("a business of nothing", 0, TaskHouse::business);
        x.is("run()", 0, TaskHouse::run);
        x.row("runOf", what -> h -> h.runOf(0, what), 0, 0, 0, 0, 1, 0);
        Tale y = Tale.running(check, ONE, 9);
        y.over(0, 0);
        y.does(0, 0, NONE, 0, 0);
        y.row("runOf", what -> h -> h.runOf(0, what), 0, 0, 0, 0, 1, 0);
        Tale z = Tale.running(check, "do aa role 0 due 1; do bb role 0 due 1;", 9);
        z.does(0, 0, NONE, 0, 1);
        z.does(0, 1, NONE, 0, 0);
        z.over(0, 1);
        z.call(TaskHouse::run);
        z.over(1, 0);
        z.call(TaskHouse::run);
        z.does(0, 3, NONE, 0, 1);
        z.does(0, 4, NONE, 0, 0);
        z.does(0, 2, NONE, 0, 1);
        z.over(0, 1);
        z.over(1, 0);
        z.over(2, 1);
    }

    private static void hours() {
        check.promise(10, "Terms: HOURS 0 .. 20000, the clock's at first 0.");
        Tale x = new Tale(check);
        x.is("the clock's at first", 0, h -> h.about(3));
        x.is("the first one", true, h -> h.hour(0));
        x.no("one ahead of it", h -> h.hour(-1));
        x.is("the last one", true, h -> h.hour(LAST_HOUR));
        x.no("one behind it", h -> h.hour(LAST_HOUR + 1));
        x.is("the clock's", LAST_HOUR, h -> h.about(3));
    }

    private static boolean[] workingHours() {
        boolean[] working = new boolean[LAST_HOUR + 1000];
        int ofDay = 0;
        int day = 0;
        for (int hour = 0; hour < working.length; hour++) {
            working[hour] = day < 5 && ofDay >= 9 && ofDay < 17;
            ofDay = ofDay == 23 ? 0 : ofDay + 1;
            day = ofDay != 0 ? day : day == 6 ? 0 : day + 1;
        }
        return working;
    }

    private static void everyHour() {
        check.promise(23, "Terms: a WORKING one if its day (HOUR / 24, the rest by 7) is 0 .. 4 and its rest by 24 is 9 .. 16");
        boolean[] working = workingHours();
        int[] edges = {9, 16, 4 * 24 + 9, 4 * 24 + 16, 7 * 24 + 9};
        int[] beside = {8, 17, 4 * 24 + 8, 4 * 24 + 17, 5 * 24 + 9, 6 * 24 + 16, 7 * 24 + 8};
        TaskHouse x = new TaskHouse();
        for (int hour : edges) {
            check.same("due(" + hour + ", 1)", x.due(hour, 1), hour + 1);
        }
        for (int hour : beside) {
            check.same("due(" + hour + ", 1) isn't the hour's own end", x.due(hour, 1) > hour + 1, true);
        }
        int[] numbers = {1, 2, 8, 9, 39, 40, 41, 98, 99};
        for (int hour = 0; hour <= LAST_HOUR; hour++) {
            if (hour % 50 == 0) {
                x = new TaskHouse();
            }
            int at = hour;
            int found = 0;
            for (int n : numbers) {
                for (; found < n; at++) {
                    found += working[at] ? 1 : 0;
                }
                check.same("due(" + hour + ", " + n + ")", x.due(hour, n), at);
            }
        }
    }

    private static void tasksAreTwoHundred() {
        check.promise(13, "Terms: TASKS 0 .. 199, numbered as they come");
        Tale x = Tale.nearlyFull(check, 0);
        x.is("task 199 is there", 0, h -> h.task(199, 5));
        x.none("task 200", h -> h.task(200, 0));
        x.is("the first of the sixth run", 5, h -> h.task(40, 0));
        x.is("is its first do", 0, h -> h.task(40, 1));
        x.is("the last that came with it", 7, h -> h.task(47, 1));
        x.is("the next came to the first run", 0, h -> h.task(48, 0));
        x.is("for its first do", 0, h -> h.task(48, 1));
        x.is("claim", 1, h -> h.claim(0, 199));
        x.none("one more", h -> h.done(199, NONE, 0));
    }

    private static void tasksAreDue() {
        check.promise(13, "Terms: DUE at the end of the due-th WORKING HOUR from the clock's on (that HOUR and 1)");
        int[][] dues = {{0, 10}, {8, 10}, {9, 10}, {10, 11}, {16, 17}, {17, 34}, {23, 34}, {24, 34}, {33, 34},
            {112, 113}, {113, 178}, {120, 178}, {153, 178}, {167, 178}, {168, 178}, {177, 178}, {178, 179},
            {LAST_HOUR - 1, 20002}, {LAST_HOUR, 20002}};
        Tale x = Tale.running(check, "again a < 1 { do zz role 0 due 1; }", 1);
        for (int t = 0; t + 1 < dues.length; t++) {
            int it = t + 1;
            x.is("hour " + dues[it][0], true, h -> h.hour(dues[it][0]));
            x.does(0, t, NONE, 0, 1);
            x.is("came at", dues[it][0], h -> h.task(it, 3));
            x.is("due of one that came at " + dues[it][0], dues[it][1], h -> h.task(it, 4));
            x.is("done at", dues[it][0], h -> h.task(it - 1, 7));
        }
        x.is("due of one that came at 0", 10, h -> h.task(0, 4));
        Tale y = Tale.of(check, "both { do aa role 0 due 99; } { do bb role 0 due 8; }");
        y.call(TaskHouse::run);
        y.sure(h -> h.hour(LAST_HOUR));
        y.call(TaskHouse::run);
        y.is("99 from 0 on", 2 * 168 + 2 * 24 + 12, h -> h.task(0, 4));
        y.is("8 from 0 on", 17, h -> h.task(1, 4));
        y.is("99 from 20000 on", 121 * 168 + 2 * 24 + 12, h -> h.task(2, 4));
        y.is("8 from 20000 on", 119 * 168 + 17, h -> h.task(3, 4));
    }

    private static void everyPerson() {
        check.promise(6, "Terms: PERSONS 0 .. 7: roles (a set), a LOAD (1 .. 9), AWAY or not, a DEPUTY or none.");
        for (int roles = 0; roles < 64; roles++) {
            Tale x = new Tale(check);
            int set = roles;
            int load = 1 + roles % 9;
            x.is("person", 0, h -> h.person(set, load));
            x.row("personOf", what -> h -> h.personOf(0, what), roles, load, 0, 0, NONE, 0);
        }
    }

    private static Tale persons(int n) {
        Tale x = new Tale(check);
        for (int p = 0; p < n; p++) {
            x.call(h -> h.person(0, 1));
        }
        return x;
    }

    private static void rows() {
        check.promise(9, "Terms: One STANDS IN for a PERSON that is AWAY (nobody does, if the row ends, or comes back)");
        // A row of all eight: the last is the only one here, then none is.
        Tale x = persons(8);
        for (int p = 0; p < 7; p++) {
            int it = p;
            x.sure(h -> h.deputy(it, it + 1), h -> h.away(it, true));
        }
        for (int p = 0; p < 8; p++) {
            int it = p;
            x.is("stands(" + p + ")", 7, h -> h.stands(it));
        }
        x.sure(h -> h.away(7, true));
        x.is("the row ends at 7", NONE, h -> h.stands(0));
        x.is("and for 7 too", NONE, h -> h.stands(7));
        x.sure(h -> h.deputy(7, 0));
        for (int p = 0; p < 8; p++) {
            int it = p;
            x.is("in a ring of eight", NONE, h -> h.stands(it));
        }
        x.sure(h -> h.away(0, false));
        for (int p = 0; p < 8; p++) {
            int it = p;
            x.is("round the ring", 0, h -> h.stands(it));
        }
        // A ring that the first one isn't in, and a ring of two.
        Tale y = persons(4);
        y.sure(h -> h.deputy(0, 1), h -> h.deputy(1, 2), h -> h.deputy(2, 1));
        y.sure(h -> h.away(0, true), h -> h.away(1, true), h -> h.away(2, true));
        y.is("comes back to 1", NONE, h -> h.stands(0));
        y.is("comes back to itself", NONE, h -> h.stands(1));
        y.is("3 is here, but nobody's deputy", 3, h -> h.stands(3));
        y.sure(h -> h.away(2, false));
        y.is("the first that isn't away", 2, h -> h.stands(0));
        y.sure(h -> h.away(1, false));
        y.is("the first that isn't away", 1, h -> h.stands(0));
        y.sure(h -> h.deputy(0, NONE));
        y.is("no deputy: the row ends", NONE, h -> h.stands(0));
    }

    private static void everyRole() {
        check.promise(14, "Terms: A PERSON MAY do a TASK if it isn't AWAY, has its role or STANDS IN for one that has");
        for (int role = 0; role <= 5; role++) {
            Tale x = Tale.of(check, "do aa role " + role + " due 1;");
            x.call(TaskHouse::run);
            int own = 1 << role;
            x.call(h -> h.person(own, 1));
            x.call(h -> h.person(63 - own, 1));
            x.call(h -> h.person(63, 1));
            x.call(h -> h.person(0, 1));
            x.is("role of the task", role, h -> h.task(0, 2));
            x.is("has it alone", 1, h -> h.may(0, 0));
            x.is("has all others", 0, h -> h.may(1, 0));
            x.is("has all", 1, h -> h.may(2, 0));
            x.is("has none", 0, h -> h.may(3, 0));
        }
    }

    private static void standingIn() {
        check.promise(14, "Terms: A PERSON MAY do a TASK if it isn't AWAY, has its role or STANDS IN for one that has");
        Tale x = Tale.of(check, "do aa role 5 due 1;");
        x.call(TaskHouse::run);
        x.call(h -> h.person(32, 1));
        x.call(h -> h.person(31, 1));
        x.call(h -> h.person(0, 1));
        x.sure(h -> h.deputy(0, 1), h -> h.deputy(1, 2));
        x.is("a deputy of one who is here", 0, h -> h.may(1, 0));
        x.sure(h -> h.away(0, true));
        x.is("away, though it has the role", 0, h -> h.may(0, 0));
        x.is("stands in", 1, h -> h.may(1, 0));
        x.is("the next in the row doesn't", 0, h -> h.may(2, 0));
        x.sure(h -> h.away(1, true));
        x.is("away, though it is the deputy", 0, h -> h.may(1, 0));
        x.is("stands in for both", 1, h -> h.may(2, 0));
        x.sure(h -> h.deputy(1, 0));
        x.is("a ring: nobody", 0, h -> h.may(2, 0));
        // It stands in for one that is no role's, while that one stands in for nobody.
        Tale y = Tale.of(check, "do aa role 1 due 1;");
        y.call(TaskHouse::run);
        y.call(h -> h.person(2, 1));
        y.call(h -> h.person(1, 1));
        y.call(h -> h.person(1, 1));
        y.sure(h -> h.deputy(1, 2), h -> h.away(1, true));
        y.is("for one without the role", 0, h -> h.may(2, 0));
    }

    private static void fourEyes() {
        check.promise(14, "Terms: and isn't the one who did the TASK of eyes last in this RUN (if it was done).");
        Tale x = Tale.running(check, "do aa role 0 due 1; do bb role 0 due 1 eyes aa; do cc role 0 due 1 eyes aa;", 9, 9);
        x.call(TaskHouse::run);
        x.does(0, 0, NONE, 0, 1);
        x.is("did it", 0, h -> h.may(0, 2));
        x.is("did it not", 1, h -> h.may(1, 2));
        x.does(1, 1, NONE, 0, 1);
        x.is("0 in the other run, where 1 did it", 1, h -> h.may(0, 3));
        x.is("1 in the other run", 0, h -> h.may(1, 3));
        x.does(1, 2, NONE, 0, 1);
        x.is("cc looks at aa, not at bb", 1, h -> h.may(1, 4));
        x.is("cc by 0", 0, h -> h.may(0, 4));
        // Not done yet: anybody; of those done again the last counts; a do's own name.
        Tale y = Tale.running(check, "again a < 1 { do aa role 0 due 1 eyes aa; }", 9, 9);
        y.is("not done", 1, h -> h.may(0, 0));
        y.call(h -> h.claim(0, 0));
        y.is("claimed is not done", 1, h -> h.may(0, 0));
        y.is("done", 1, h -> h.done(0, NONE, 0));
        y.is("0 did it last", 0, h -> h.may(0, 1));
        y.does(1, 1, NONE, 0, 1);
        y.is("1 did it last", 0, h -> h.may(1, 2));
        y.is("0 did it ahead of that", 1, h -> h.may(0, 2));
        y.is("of the first task too", 1, h -> h.may(0, 0));
        // Who stands in is asked for itself, not for the one who is away.
        Tale z = Tale.running(check, "do aa role 0 due 1; do bb role 0 due 1 eyes aa;", 9, 9);
        z.does(0, 0, NONE, 0, 1);
        z.sure(h -> h.deputy(0, 1), h -> h.away(0, true));
        z.is("the deputy of who did it", 1, h -> h.may(1, 1));
        z.sure(h -> h.away(0, false), h -> h.deputy(1, 0), h -> h.away(1, true));
        z.is("who did it, as a deputy", 0, h -> h.may(0, 1));
    }

    private static void states() {
        check.promise(15, "Terms: A TASK is OPEN, CLAIMED or DONE.");
        Tale x = Tale.running(check, ONE, 1);
        x.is("open", 0, h -> h.task(0, 5));
        x.is("by nobody", NONE, h -> h.task(0, 6));
        x.call(h -> h.claim(0, 0));
        x.is("claimed", 1, h -> h.task(0, 5));
        x.is("by 0", 0, h -> h.task(0, 6));
        x.is("not done at", NONE, h -> h.task(0, 7));
        x.sure(h -> h.giveBack(0));
        x.is("open", 0, h -> h.task(0, 5));
        x.is("by nobody", NONE, h -> h.task(0, 6));
        x.does(0, 0, NONE, 0, 0);
        x.is("done", 2, h -> h.task(0, 5));
        x.is("by 0", 0, h -> h.task(0, 6));
        x.is("at", 0, h -> h.task(0, 7));
    }

    private static void everyLoad() {
        check.promise(15, "Terms: CLAIMS of a PERSON: TASKS CLAIMED by it; LOAD at most.");
        for (int load = 1; load <= 9; load++) {
            int most = load;
            Tale x = Tale.of(check, Tale.eightWays());
            x.call(h -> h.person(1, most));
            x.call(TaskHouse::run);
            x.call(TaskHouse::run);
            for (int n = 0; n < load; n++) {
                int t = n;
                x.is("claims of load " + load, n + 1, h -> h.claim(0, t));
            }
            x.none("one above load " + load, h -> h.claim(0, 15));
            x.sure(h -> h.giveBack(0));
            x.is("as one was given back", load, h -> h.claim(0, 15));
            x.none("one above load " + load, h -> h.claim(0, 0));
            x.call(h -> h.done(15, NONE, 0));
            x.is("as one was done", load, h -> h.claim(0, 0));
            x.is("claims", load, h -> h.personOf(0, 2));
        }
    }

    private static void goingAway() {
        check.promise(8, "Terms: Who goes AWAY: its CLAIMED TASKS are OPEN again.");
        Tale x = Tale.running(check, Tale.eightWays(), 9, 9);
        x.does(0, 3, NONE, 0, 1);
        for (int t : new int[] {0, 7, 8}) {
            x.call(h -> h.claim(0, t));
        }
        x.call(h -> h.claim(1, 1));
        x.is("away", true, h -> h.away(0, true));
        int[] states = {0, 1, 0, 2, 0, 0, 0, 0, 0};
        int[] owners = {NONE, 1, NONE, 0, NONE, NONE, NONE, NONE, NONE};
        for (int t = 0; t < states.length; t++) {
            int it = t;
            x.is("state of " + t, states[t], h -> h.task(it, 5));
            x.is("owner of " + t, owners[t], h -> h.task(it, 6));
        }
        x.row("personOf", what -> h -> h.personOf(0, what), 1, 9, 0, 1, NONE, 1);
        x.row("personOf", what -> h -> h.personOf(1, what), 1, 9, 1, 0, NONE, 0);
        x.is("back", true, h -> h.away(0, false));
        x.is("claims", 0, h -> h.personOf(0, 2));
        x.is("all nine of the load are free", 1, h -> h.claim(0, 0));
    }

    private static void listsByDue() {
        check.promise(19, "Terms: THE LIST of a PERSON: TASKS that are OPEN and that it MAY do, by DUE, of like ones by numbers.");
        // Due 34, 17 and 10 from hour 0 on, 34, 41 and 34 from hour 17 on: 0, 3 and 5 are like ones.
        Tale x = Tale.of(check, "both { do aa role 0 due 9; } { both { do bb role 0 due 8; } { do cc role 1 due 1; } }");
        x.call(h -> h.person(3, 9));
        x.call(h -> h.person(1, 1));
        x.call(h -> h.person(2, 1));
        x.is("no tasks", 0, h -> h.list(0));
        x.none("no tasks", h -> h.listed(0, 0));
        x.call(TaskHouse::run);
        x.sure(h -> h.hour(17));
        check.same("another one", x.tell("do aa role 0 due 1; do bb role 0 due 8; do cc role 1 due 1;"), 3);
        x.call(TaskHouse::run);
        x.does(1, 3, NONE, 0, 1);
        x.does(1, 4, NONE, 0, 1);
        x.call(TaskHouse::run);
        int[] dues = {34, 17, 10, 34, 41, 34, 34};
        for (int t = 0; t < dues.length; t++) {
            int it = t;
            x.is("due of " + t, dues[t], h -> h.task(it, 4));
        }
        x.is("list(0)", 5, h -> h.list(0));
        x.row("listed(0, i)", i -> h -> h.listed(0, i), 2, 1, 0, 5, 6);
        x.row("listed(1, i)", i -> h -> h.listed(1, i), 1, 0, 6);
        x.row("listed(2, i)", i -> h -> h.listed(2, i), 2, 5);
        x.call(h -> h.claim(1, 0));
        x.row("without the claimed one", i -> h -> h.listed(0, i), 2, 1, 5, 6);
        x.row("whatever its load", i -> h -> h.listed(1, i), 1, 6);
        x.sure(h -> h.giveBack(0));
        x.row("given back", i -> h -> h.listed(0, i), 2, 1, 0, 5, 6);
        x.sure(h -> h.away(2, true));
        x.row("away", i -> h -> h.listed(2, i));
        x.is("away", 0, h -> h.list(2));
        listsOfFour();
    }

    /** All orders in which four dues, some of them alike, may come. */
    private static void listsOfFour() {
        int[] dues = new int[4];
        for (int code = 0; code < 256; code++) {
            for (int t = 0; t < 4; t++) {
                dues[t] = 1 + (code >> 2 * t & 3);
            }
            Tale x = Tale.running(check, "both{both{do aa role0due" + dues[0] + ";}{do bb role0due" + dues[1]
                + ";}}{both{do cc role0due" + dues[2] + ";}{do dd role0due" + dues[3] + ";}}", 9);
            int[] want = new int[4];
            for (int t = 0; t < 4; t++) {
                int ahead = 0;
                for (int other = 0; other < 4; other++) {
                    ahead += dues[other] < dues[t] || dues[other] == dues[t] && other < t ? 1 : 0;
                }
                want[ahead] = t;
            }
            x.row("listed", i -> h -> h.listed(0, i), want);
        }
    }

    private static void offers() {
        check.promise(20, "Terms: THE OFFER: of those who MAY and have fewer CLAIMS than LOAD the one with the fewest, the lowest.");
        Tale x = Tale.running(check, Tale.eightWays(), 1, 2, 3);
        x.call(h -> h.person(2, 9));
        int[] offered = {0, 1, 2, 1, 2, 2};
        for (int t = 0; t < offered.length; t++) {
            int it = t;
            x.is("offer of " + t, offered[t], h -> h.offer(it));
            x.call(h -> h.claim(offered[it], it));
        }
        x.none("all but who may not are at their loads", h -> h.offer(6));
        x.sure(h -> h.giveBack(3));
        x.is("1 has room for one", 1, h -> h.offer(6));
        x.sure(h -> h.giveBack(2));
        x.sure(h -> h.giveBack(4));
        x.is("1 and 2 have one claim each", 1, h -> h.offer(6));
        x.sure(h -> h.giveBack(5));
        x.is("2 has none", 2, h -> h.offer(6));
        x.sure(h -> h.giveBack(0));
        x.is("0 and 2 have none", 0, h -> h.offer(6));
        x.sure(h -> h.away(0, true));
        x.is("0 is away", 2, h -> h.offer(6));
        x.sure(h -> h.away(1, true), h -> h.away(2, true));
        x.none("nobody may", h -> h.offer(6));
        x.sure(h -> h.deputy(0, 3));
        x.is("who stands in", 3, h -> h.offer(6));
    }
}
