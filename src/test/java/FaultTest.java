/**
 * The language: which texts are businesses (promise 4), and which fault the others have, and where (promise 5),
 * by the sentences of the document's section 'Terms', in their order.
 */
public final class FaultTest {
    private static final Check check = new Check("FaultTest");
    private static final String DO = "do ab role 1 due 1;";
    private static final String[] WORDS = {"do", "role", "due", "eyes", "both", "if", "else", "again", "set"};
    private static final String[] STEPS = {"do", "set", "both", "if", "again"};

    public static void main(String[] args) {
        length();
        bytes();
        tokens();
        names();
        numbers();
        fields();
        dos();
        sets();
        tests();
        whole();
        firstFault();
        places();
        misplaced();
        taskNames();
        wrongNumbers();
        mostSteps();
        mostOpen();
        agains();
        check.finish();
    }

    private static void good(String text, int steps, int dos) {
        TaskHouse x = new TaskHouse();
        check.same("business() of '" + text + "'", Check.tell(x, text), steps);
        check.same("fault(0) of '" + text + "'", x.fault(0), 0);
        check.same("fault(1) of '" + text + "'", x.fault(1), -1);
        check.same("about(0) of '" + text + "'", x.about(0), steps);
        check.same("about(1) of '" + text + "'", x.about(1), dos);
    }

    private static void bad(String text, int fault, int place) {
        TaskHouse x = new TaskHouse();
        check.same("business() of '" + text + "'", Check.tell(x, text), -1);
        check.same("fault(0) of '" + text + "'", x.fault(0), fault);
        check.same("fault(1) of '" + text + "'", x.fault(1), place);
        check.same("about(0) of '" + text + "'", x.about(0), -1);
        check.same("about(6) of '" + text + "'", x.about(6), 0);
    }

    private static String times(String text, int n) {
        StringBuilder all = new StringBuilder();
        for (int i = 0; i < n; i++) {
            all.append(text);
        }
        return all.toString();
    }

    private static void length() {
        check.promise(4, "Terms: A BUSINESS: a text of up to 300 bytes.");
        good("", 0, 0);
        good(" ", 0, 0);
        good("  \n ", 0, 0);
        good(times(" ", 300), 0, 0);
        good(times(" ", 292) + "set a 1;", 1, 0);
        good(times(" ", 281) + DO, 1, 1);
        good("set a 1;" + times("\n", 292), 1, 0);
        bad(times(" ", 299) + "x", 1, 299);
        bad("set a 1" + times(" ", 293), 1, 300);
        bad(times(" ", 293) + "set a 1", 1, 300);
        bad(times(" ", 299) + "}", 1, 299);
    }

    private static boolean isBetween(char low, int b, char high) {
        return b >= low && b <= high;
    }

    private static void bytes() {
        check.promise(5, "Terms: TOKENS, blanks (32, 10) aside");
        for (int b = 0; b < 256; b++) {
            char it = (char) b;
            boolean blank = b == 32 || b == 10;
            if (blank || isBetween('0', b, '9')) {
                good("set a" + it + "1;", 1, 0);
            } else {
                bad("set a" + it + "1;", 1, isBetween('a', b, 'z') ? 4 : 5);
            }
            if (isBetween('0', b, '9')) {
                bad("set a 1" + it + "2;", 3, 6);
            } else {
                bad("set a 1" + it + "2;", 1, blank || it == ';' ? 8 : 7);
            }
            if (blank) {
                good("set a 1;" + it, 1, 0);
            } else {
                bad("set a 1;" + it, 1, 8);
            }
            bad("se" + it + "t a 1;", 1, 0);
        }
    }

    private static void tokens() {
        check.promise(5, "Terms: one behind the other");
        good("do ab role0due1eyes ab;set a 5;both{}{}", 3, 1);
        good("do\nab\nrole\n3\ndue\n4\n;", 1, 1);
        good("if a<1{}else{}again b<2{do ab role1due1;}", 3, 1);
        bad("doab role 1 due 1;", 1, 0);
        bad("do abrole 1 due 1;", 1, 10);
        bad("seta 1;", 1, 0);
        bad("set a 1 0;", 1, 8);
        bad("set a -1;", 1, 6);
        bad("set a 1.0;", 1, 7);
        bad("set A 1;", 1, 4);
    }

    private static void names() {
        check.promise(5, "Terms: the WORDS; others are NAMES, of 6 letters at most");
        bad("do abcdefg role 1 due 1;", 1, 3);
        bad("do abcdefgh role 1 due 1;", 1, 3);
        bad("do " + times("z", 290), 1, 3);
        good("do abcdef role 1 due 1;", 1, 1);
        good("do zzzzzz role 1 due 1; do zzzzz role 1 due 1; do azzzzz role 1 due 1; do zzzzza role 1 due 1;", 4, 4);
        bad("do ab role 1 due 1 eyes abcdefg;", 1, 24);
        // The seventh letter ahead must not fall off and leave the six.
        bad("do abcdef role 1 due 1 eyes dabcdef;", 1, 28);
        bad("do abcdef role 1 due 1; do dabcdef role 1 due 1;", 1, 27);
        for (String word : WORDS) {
            bad("do " + word + " role 1 due 1;", 1, 3);
            bad("do ab role 1 due 1 eyes " + word + ";", 1, 24);
            good("do " + word + "s role 1 due 1;", 1, 1);
            good("do s" + word + " role 1 due 1;", 1, 1);
            bad(word + "s ab role 1 due 1;", 1, 0);
        }
        bad("d", 1, 0);
        bad("se a 1;", 1, 0);
        bad("iff a < 1 { } else { }", 1, 0);
    }

    private static void numbers() {
        check.promise(5, "Terms: digits one behind the other (NUMBERS)");
        good("set a 0000000000000000000099;", 1, 0);
        good("set a " + times("0", 293) + ";", 1, 0);
        bad("set a " + times("0", 290) + "100;", 3, 6);
        bad("set a " + times("9", 293) + ";", 3, 6);
        bad("set a 1" + times("0", 290) + ";", 3, 6);
        // What would be one of those told, were it reckoned by 2^8, 2^16, 2^31, 2^32 or 2^64.
        String[] wraps = {"257", "65537", "2147483648", "2147483649", "4294967296", "4294967297", "4294967299",
            "18446744073709551616", "18446744073709551617"};
        for (String wrap : wraps) {
            bad("do ab role " + wrap + " due 1;", 3, 11);
            bad("do ab role 1 due " + wrap + ";", 3, 17);
            bad("set a " + wrap + ";", 3, 6);
            bad("if a < " + wrap + " { } else { }", 3, 7);
            bad("again a < " + wrap + " { " + DO + " }", 3, 10);
        }
    }

    private static void fields() {
        check.promise(5, "Terms: A FIELD is the NAME a, b, c or d.");
        for (char c = 'a'; c <= 'z'; c++) {
            if (c <= 'd') {
                good("set " + c + " 1;", 1, 0);
                good("if " + c + " < 1 { } else { }", 1, 0);
                good("again " + c + " < 1 { " + DO + " }", 2, 1);
            } else {
                bad("set " + c + " 1;", 1, 4);
                bad("if " + c + " < 1 { } else { }", 1, 3);
                bad("again " + c + " < 1 { " + DO + " }", 1, 6);
            }
            bad("set a" + c + " 1;", 1, 4);
        }
        bad("set 1 1;", 1, 4);
        bad("set set 1;", 1, 4);
    }

    private static void dos() {
        check.promise(5, "Terms: a TASK's NAME of 2 letters or more; role 0 .. 5; due 1 .. 99");
        bad("do a role 1 due 1;", 1, 3);
        bad("do z role 1 due 1;", 1, 3);
        bad("do ab role 1 due 1 eyes a;", 1, 24);
        bad("do ab role 1 due 1 eyes z;", 1, 24);
        bad("do ab role 1 due 1 eyes b", 1, 24);
        bad("set a 1; do ab role 1 due 1 eyes a;", 1, 33);
        good("do aa role 1 due 1; do zz role 1 due 1 eyes aa;", 2, 2);
        for (int n = 0; n <= 110; n++) {
            if (n <= 5) {
                good("do ab role " + n + " due 1;", 1, 1);
            } else {
                bad("do ab role " + n + " due 1;", 3, 11);
            }
            if (n >= 1 && n <= 99) {
                good("do ab role 1 due " + n + ";", 1, 1);
            } else {
                bad("do ab role 1 due " + n + ";", 3, 17);
            }
        }
        bad("do ab role 1 due 00;", 3, 17);
    }

    private static void sets() {
        check.promise(5, "Terms: set FIELD NUMBER ; (0 .. 99)");
        for (int n = 0; n <= 110; n++) {
            if (n <= 99) {
                good("set d " + n + ";", 1, 0);
            } else {
                bad("set d " + n + ";", 3, 6);
            }
        }
    }

    private static void tests() {
        check.promise(5, "Terms: if FIELD < NUMBER, again FIELD < NUMBER (NUMBERS 0 .. 99)");
        for (int n = 0; n <= 110; n++) {
            if (n <= 99) {
                good("if a < " + n + " { } else { }", 1, 0);
                good("again a < " + n + " { " + DO + " }", 2, 1);
            } else {
                bad("if a < " + n + " { } else { }", 3, 7);
                bad("again a < " + n + " { " + DO + " }", 3, 10);
            }
        }
    }

    private static void whole() {
        check.promise(4, "Terms: STEPS: {STEP}.");
        good("do ab role 0 due 1;", 1, 1);
        good("do abcdef role 5 due 99 eyes abcdef;", 1, 1);
        good("set a 0; set d 99;", 2, 0);
        good("both { } { }", 1, 0);
        good("if a < 0 { } else { }", 1, 0);
        good("both { " + DO + " set a 1; } { if b < 2 { set c 3; } else { } }", 5, 1);
        good("if a < 1 { " + DO + " } else { both { } { do cd role 1 due 1; } set a 1; }", 5, 2);
    }

    private static void firstFault() {
        check.promise(5, "Terms: FAULTS, the first as TOKENS are come to, of one the least");
        bad("do ab role 6 due 0;", 3, 11);
        bad("do ab role 6 7", 3, 11);
        bad("do ab role 6 due 1; do ab", 3, 11);
        bad(DO + " do ab role 9", 2, 23);
        bad("again a < 100 { }", 3, 10);
        bad("again a < 1 { } do", 5, 14);
        bad("again a < 1 { do ab role 9 due 1; }", 3, 25);
        bad("again a < 1 { set a 1; set }", 1, 27);
        bad("set a 1; } set a 100;", 1, 9);
        // The least: what can't stand there, though it is the 41st, the 5th, a number too high or a name told.
        bad(times("set a1;", 40) + "ab", 1, 280);
        bad(times("set a1;", 40) + "else", 1, 280);
        bad(times("set a1;", 40) + "}", 1, 280);
        bad("both{both{both{both{both both", 4, 20);
        bad("do ab 100", 1, 6);
        bad(DO + " ab", 1, 20);
        bad(DO + " do cd role ab", 1, 31);
    }

    private static void places() {
        check.promise(5, "Terms: at the TOKEN's first byte (of the end at the length)");
        bad("do", 1, 2);
        bad("do  ", 1, 4);
        bad("do ab role 1 due 1", 1, 18);
        bad("do ab role 1 due 1 \n ", 1, 21);
        bad("both { } {", 1, 10);
        bad("again a < 1 { " + DO, 1, 33);
        bad("both {", 1, 6);
        bad("\n\n  role", 1, 4);
        bad("set\n\na\n100;", 3, 7);
        bad("set a100;", 3, 5);
        bad("set a1;set b2 2;", 1, 14);
        bad("}", 1, 0);
        bad(DO + "do\nab role 1 due 1;", 2, 22);
        bad("again a < 1 {\n }", 5, 15);
    }

    private static final String[] TOKENS = {"", "do", "role", "due", "eyes", "both", "if", "else", "again", "set",
        "a", "e", "zz", "abcdefg", "7", "{", "}", ";", "<", "=", "\t", "\u00e1"};

    private static boolean isIn(String token, String[] all) {
        for (String it : all) {
            if (it.equals(token)) {
                return true;
            }
        }
        return false;
    }

    /** Behind this text all tokens but these are fault 1; the empty one is the end. */
    private static void only(String ahead, String... fit) {
        for (String token : TOKENS) {
            if (!isIn(token, fit)) {
                bad(ahead + token, 1, ahead.length());
            }
        }
    }

    private static String[] stepsOr(String token) {
        String[] all = java.util.Arrays.copyOf(STEPS, STEPS.length + 1);
        all[STEPS.length] = token;
        return all;
    }

    private static void misplaced() {
        check.promise(5, "Terms: 1 it can't stand there, or is none.");
        only("", stepsOr(""));
        only("do ", "zz");
        only("do ab ", "role");
        only("do ab role ", "7");
        only("do ab role 1 ", "due");
        only("do ab role 1 due ", "7");
        only("do ab role 1 due 1 ", "eyes", ";");
        only("do ab role 1 due 1 eyes ", "zz");
        only("do ab role 1 due 1 eyes ab ", ";");
        only(DO + " ", stepsOr(""));
        only("set ", "a");
        only("set a ", "7");
        only("set a 1 ", ";");
        only("set a 1; ", stepsOr(""));
        only("both ", "{");
        only("both { ", stepsOr("}"));
        only("both { set a 1; ", stepsOr("}"));
        only("both { } ", "{");
        only("both { } { ", stepsOr("}"));
        only("both { } { } ", stepsOr(""));
        only("if ", "a");
        only("if a ", "<");
        only("if a < ", "7");
        only("if a < 1 ", "{");
        only("if a < 1 { ", stepsOr("}"));
        only("if a < 1 { } ", "else");
        only("if a < 1 { } else ", "{");
        only("if a < 1 { } else { ", stepsOr("}"));
        only("if a < 1 { } else { } ", stepsOr(""));
        only("again ", "a");
        only("again a ", "<");
        only("again a < ", "7");
        only("again a < 1 ", "{");
        only("again a < 1 { ", stepsOr("}"));
        only("again a < 1 { " + DO + " } ", stepsOr(""));
        only("both { both { } { } ", stepsOr("}"));
    }

    private static void taskNames() {
        check.promise(5, "Terms: 2 the NAME of a do that was told, the NAME of eyes that wasn't (the do's own one was).");
        bad(DO + " do ab role 1 due 1;", 2, 23);
        bad("both { " + DO + " } { do ab role 1 due 1; }", 2, 34);
        bad("if a < 1 { " + DO + " } else { do ab role 1 due 1; }", 2, 43);
        bad("again a < 1 { " + DO + " } do ab role 1 due 1;", 2, 39);
        bad("do abcdef role 1 due 1; do abcdef", 2, 27);
        bad(DO + " do cd role 1 due 1; do ef role 1 due 1; do ab", 2, 63);
        bad(DO + " do cd role 1 due 1; do ef role 1 due 1; do cd", 2, 63);
        bad(DO + " do cd role 1 due 1; do ef role 1 due 1; do ef", 2, 63);
        bad("do ab role 1 due 1 eyes ba;", 2, 24);
        bad("do ab role 1 due 1 eyes cd; do cd role 1 due 1;", 2, 24);
        bad("do ab role 1 due 1 eyes abc;", 2, 24);
        bad("do abc role 1 due 1 eyes ab;", 2, 25);
        bad("do abcdef role 1 due 1 eyes bbcdef;", 2, 28);
        good("do ab role 1 due 1 eyes ab;", 1, 1);
        good(DO + " do ba role 1 due 1 eyes ab; do cd role 1 due 1 eyes ba;", 3, 3);
        good("both { " + DO + " } { do ba role 1 due 1 eyes ab; }", 3, 2);
        good(DO + " do abc role 1 due 1; do bab role 1 due 1;", 3, 3);
        namesApart();
    }

    private static void apart(String name, String other) {
        good("do " + name + " role 1 due 1; do " + other + " role 1 due 1;", 2, 2);
    }

    /** Names that differ by a letter, by two beside one another, or by their length alone. */
    private static void namesApart() {
        String letters = "abcdefghijklmnopqrstuvwxyz";
        for (int i = 0; i < 6; i++) {
            for (char c : letters.toCharArray()) {
                String other = "mmmmmm".substring(0, i) + c + "mmmmmm".substring(i + 1);
                if (c == 'm') {
                    bad("do mmmmmm role 1 due 1; do " + other, 2, 27);
                } else {
                    apart("mmmmmm", other);
                }
            }
        }
        for (char c = 'a'; c < 'z'; c++) {
            for (char last : letters.toCharArray()) {
                for (char otherLast : letters.toCharArray()) {
                    String name = "" + c + last;
                    String other = "" + (char) (c + 1) + otherLast;
                    if (!isIn(name, WORDS) && !isIn(other, WORDS)) {
                        apart(name, other);
                    }
                }
            }
        }
        for (int n = 2; n < 6; n++) {
            apart(times("a", n), times("a", n + 1));
            apart(times("z", n), times("z", n + 1));
            apart(times("a", n) + "z", times("a", n - 1) + "z");
        }
    }

    private static void wrongNumbers() {
        check.promise(5, "Terms: 3 a NUMBER that isn't one of those told.");
        bad("do ab role 6", 3, 11);
        bad("do ab role 1 due 0", 3, 17);
        bad("do ab role 1 due 100", 3, 17);
        bad("set a 100", 3, 6);
        bad("if a < 100", 3, 7);
        bad("again a < 100", 3, 10);
        bad(DO + " do cd role 5 due 99; do ef role 6", 3, 52);
    }

    private static void mostSteps() {
        check.promise(5, "Terms: 4 the 41st STEP (at its word)");
        String forty = times("set a1;", 40);
        good(forty, 40, 0);
        good(times("set a1;", 39) + DO, 40, 1);
        good(times("set a1;", 39) + "both{}{}", 40, 0);
        good("both{" + times("set a1;", 20) + "}{" + times("set a1;", 19) + "}", 40, 0);
        for (String step : STEPS) {
            bad(forty + step, 4, 280);
            bad(forty + " \n " + step, 4, 283);
            bad("both{" + times("set a1;", 39) + step, 4, 278);
            bad(times("set a1;", 39) + "both{}{" + step, 4, 280);
        }
        // The rest of a step that is one too many isn't come to.
        bad(forty + "set a 100;", 4, 280);
        bad(forty + "do a", 4, 280);
        bad("both{" + times("set a1;", 20) + "}{" + times("set a1;", 20) + "}", 4, 280);
    }

    private static void mostOpen() {
        check.promise(5, "Terms: 4 the 5th of both, if, again that are open around one another (at its word)");
        good("both{both{both{both{}{}}{}}{}}{}", 4, 0);
        good("if a<1{if a<1{if a<1{if a<1{}else{}}else{}}else{}}else{}", 4, 0);
        good("again a<1{again a<1{again a<1{again a<1{" + DO + "}}}}", 5, 1);
        good("both{}{both{}{both{}{both{}{ set a 1; " + DO + "}}}}", 6, 1);
        for (String step : new String[] {"both", "if", "again"}) {
            bad("both{both{both{both{" + step, 4, 20);
            bad("both{}{both{}{both{}{both{}{ " + step, 4, 29);
            bad("again a<1{again a<1{again a<1{again a<1{" + step, 4, 40);
            bad("if a<1{}else{if a<1{}else{if a<1{}else{if a<1{}else{" + step, 4, 52);
            bad("both{if a<1{again a<1{both{ " + step, 4, 28);
        }
        bad("both{both{both{both{ set a 1; do ab role 9 due 1; }{}}{}}{}}{}", 3, 41);
        // Those that are closed aren't open, however many there were.
        good(times("both{}{}", 20), 20, 0);
        good("both{both{both{both{}{}}{both{}{}}}{}}{} both{}{}", 6, 0);
        good("both{both{both{both{}{}both{}{}}{both{}{}}}{both{both{}{}}{}}}{}", 8, 0);
    }

    private static void agains() {
        check.promise(5, "Terms: 5 the } of an again whose STEPS may be gone through without a do.");
        bad("again a < 1 { }", 5, 14);
        bad("again a < 1 { set a 1; }", 5, 23);
        good("again a < 1 { " + DO + " }", 2, 1);
        good("again a < 1 { set a 1; " + DO + " set a 2; }", 4, 1);
        bad(DO + " again a < 1 { } ", 5, 34);
        bad("again a < 1 { " + DO + " } again b < 2 { }", 5, 50);
        check.promise(5, "Terms: Not to be gone through without one: a both one of whose two can't be");
        bad("again a < 1 { both { } { } }", 5, 27);
        bad("again a < 1 { both { set a 1; } { set a 1; } }", 5, 45);
        good("again a < 1 { both { " + DO + " } { } }", 3, 1);
        good("again a < 1 { both { } { " + DO + " } }", 3, 1);
        good("again a < 1 { both { " + DO + " } { do cd role 1 due 1; } }", 4, 2);
        bad("again a < 1 { both { if a < 1 { " + DO + " } else { } } { } }", 5, 69);
        check.promise(5, "Terms: Not to be gone through without one: an if none of whose two can be");
        bad("again a < 1 { if a < 1 { } else { } }", 5, 36);
        bad("again a < 1 { if a < 1 { " + DO + " } else { } }", 5, 56);
        bad("again a < 1 { if a < 1 { } else { " + DO + " } }", 5, 56);
        good("again a < 1 { if a < 1 { " + DO + " } else { do cd role 1 due 1; } }", 4, 2);
        good("again a < 1 { if a < 1 { } else { } " + DO + " }", 3, 1);
        good("again a < 1 { both { if a < 1 { " + DO + " } else { } } { } do cd role 1 due 1; }", 5, 2);
        good("again a < 1 { if a < 1 { both { } { " + DO + " } } else { do cd role 1 due 1; } }", 5, 2);
        check.promise(5, "Terms: Not to be gone through without one: an again");
        good("again a < 1 { again a < 1 { " + DO + " } }", 3, 1);
        good("again a < 1 { both { again a < 1 { " + DO + " } } { } }", 4, 1);
        good("again a < 1 { if a < 1 { " + DO + " } else { again a < 1 { do cd role 1 due 1; } } }", 5, 2);
        bad("again a < 1 { again a < 1 { } " + DO + " }", 5, 28);
        bad("if a < 1 { " + DO + " } else { again a < 1 { } }", 5, 54);
        // What stands around it or ahead of it is none of its own.
        bad("again a < 1 { " + DO + " again a < 1 { } }", 5, 48);
        bad("both { " + DO + " } { again a < 1 { } }", 5, 45);
        bad("again a < 1 { both { again b < 1 { set a 1; } } { " + DO + " } }", 5, 44);
    }
}
