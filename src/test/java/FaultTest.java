/** The language: which texts are businesses, and which fault the others have, and where. */
public final class FaultTest {
    private static final Check check = new Check("FaultTest");

    public static void main(String[] args) {
        texts();
        tokens();
        names();
        numbers();
        places();
        limits();
        agains();
        check.finish();
    }

    private static void good(String text, int steps, int dos) {
        TaskHouse x = new TaskHouse();
        check.same("business() of '" + text + "'", Check.tell(x, text), steps);
        check.same("fault(0) of '" + text + "'", x.fault(0), 0);
        check.same("fault(1) of '" + text + "'", x.fault(1), -1);
        check.same("about(0) of '" + text + "'", x.about(0), steps);
        check.same("about(1) of '" + text + "'", x.about(1), dos);
    }

    private static void bad(String text, int fault, int place) {
        TaskHouse x = new TaskHouse();
        check.same("business() of '" + text + "'", Check.tell(x, text), -1);
        check.same("fault(0) of '" + text + "'", x.fault(0), fault);
        check.same("fault(1) of '" + text + "'", x.fault(1), place);
        check.same("about(0) of '" + text + "'", x.about(0), -1);
        check.same("about(6) of '" + text + "'", x.about(6), 0);
    }

    private static void texts() {
        good("", 0, 0);
        good("  \n ", 0, 0);
        good("do ab role 0 due 1;", 1, 1);
        good("do abcdef role 5 due 99 eyes abcdef;", 1, 1);
        good("set a 0; set d 99;", 2, 0);
        good("both { } { }", 1, 0);
        good("if a < 0 { } else { }", 1, 0);
        good("again a < 99 { do ab role 1 due 1; }", 2, 1);
        good("both { do ab role 1 due 1; set a 1; } { if b < 2 { set c 3; } else { } }", 5, 1);
    }

    private static void tokens() {
        good("do ab role0due1eyes ab;set a 5;both{}{}", 3, 1);
        good("do\nab\nrole\n3\ndue\n4\n;", 1, 1);
        good("set a 0000000000000000000099;", 1, 0);
        good("do doo role 1 due 1; do agains role 1 due 1;", 2, 2);
        bad("\tset a 1;", 1, 0);
        bad("set a 1;\r", 1, 8);
        bad("set A 1;", 1, 4);
        bad("set a 1,", 1, 7);
        bad("set a -1;", 1, 6);
        bad("set a 1; \u0000", 1, 9);
        bad("set a 1; \u00e1", 1, 9);
        bad("set \u00ff", 1, 4);
        bad("do abcdefg role 1 due 1;", 1, 3);
        bad("do ab role 1 due 1 eyes abcdefg;", 1, 24);
        bad("do ab role 1 due 1; `", 1, 20);
        bad("do ab role 1 due 1; {", 1, 20);
        bad("set a 1 / 2;", 1, 8);
        bad("set a 1:", 1, 7);
    }

    private static void names() {
        bad("do a role 1 due 1;", 1, 3);
        bad("do z role 1 due 1;", 1, 3);
        bad("do do role 1 due 1;", 1, 3);
        bad("do else role 1 due 1;", 1, 3);
        bad("do 12 role 1 due 1;", 1, 3);
        bad("do ab role 1 due 1; do ab role 1 due 1;", 2, 23);
        bad("both { do ab role 1 due 1; } { do ab role 1 due 1; }", 2, 34);
        bad("do ab role 1 due 1 eyes ba;", 2, 24);
        bad("do ab role 1 due 1 eyes cd; do cd role 1 due 1;", 2, 24);
        bad("do ab role 1 due 1 eyes x;", 1, 24);
        bad("do ab role 1 due 1 eyes a;", 1, 24);
        bad("do ab role 1 due 1 eyes b", 1, 24);
        bad("set a 1; do ab role 1 due 1 eyes a;", 1, 33);
        bad("do ab role 1 due 1 eyes ;", 1, 24);
        bad("do ab role 1 due 1 eyes role;", 1, 24);
        bad("do ab role 1 due 1 eyes 5;", 1, 24);
        good("do ab role 1 due 1; do ba role 1 due 1 eyes ab;", 2, 2);
        good("do ab role 1 due 1; do abc role 1 due 1;", 2, 2);
        bad("set e 1;", 1, 4);
        bad("set ab 1;", 1, 4);
        bad("set aa 1;", 1, 4);
        bad("set set 1;", 1, 4);
        bad("set 1 1;", 1, 4);
        bad("if e < 1 { } else { }", 1, 3);
        bad("again x < 1 { do ab role 1 due 1; }", 1, 6);
    }

    private static void numbers() {
        bad("do ab role 6 due 1;", 3, 11);
        bad("do ab role 1 due 0;", 3, 17);
        bad("do ab role 1 due 100;", 3, 17);
        bad("do ab role 99999999999999999999 due 1;", 3, 11);
        bad("do ab role 4294967296 due 1;", 3, 11);
        bad("set a 100;", 3, 6);
        bad("set a 4294967297;", 3, 6);
        bad("if a < 100 { } else { }", 3, 7);
        bad("again a < 100 { do ab role 1 due 1; }", 3, 10);
        good("if a < 99 { } else { }", 1, 0);
        good("if a < 0 { } else { }", 1, 0);
        // The first fault as the tokens are come to.
        bad("do ab role 6 due 0;", 3, 11);
        bad("do ab role 6 7", 3, 11);
        bad("do ab role 6 due 1; do ab", 3, 11);
        bad("do ab role 1 due 1; do ab role 9", 2, 23);
    }

    private static void places() {
        bad("do", 1, 2);
        bad("do  ", 1, 4);
        bad("do ab role 1 due 1", 1, 18);
        bad("do ab role 1 due 1 \n ", 1, 21);
        bad("do ab due 1 role 1;", 1, 6);
        bad("do ab role 1 eyes ab due 1;", 1, 13);
        bad("do ab role 1 due 1 1;", 1, 19);
        bad("do ab role 1 due 1;;", 1, 19);
        bad("ab role 1 due 1;", 1, 0);
        bad("5", 1, 0);
        bad(";", 1, 0);
        bad("}", 1, 0);
        bad("set a 1; }", 1, 9);
        bad("role", 1, 0);
        bad("set a < 1;", 1, 6);
        bad("set a 1", 1, 7);
        bad("both { }", 1, 8);
        bad("both { } ;", 1, 9);
        bad("both { } else { }", 1, 9);
        bad("both { } {", 1, 10);
        bad("both { } { } { }", 1, 13);
        bad("both ;", 1, 5);
        bad("if a < 1 { }", 1, 12);
        bad("if a < 1 { } { }", 1, 13);
        bad("if a < 1 { } else ;", 1, 18);
        bad("if a < 1 { } else { } else { }", 1, 22);
        bad("if a 1 { } else { }", 1, 5);
        bad("if a < b { } else { }", 1, 7);
        bad("if a < 1 else { }", 1, 9);
        bad("again a < 1 { do ab role 1 due 1; } else { }", 1, 36);
        bad("again a < 1 { do ab role 1 due 1;", 1, 33);
        bad("again { }", 1, 6);
    }

    private static String times(String text, int n) {
        StringBuilder all = new StringBuilder();
        for (int i = 0; i < n; i++) {
            all.append(text);
        }
        return all.toString();
    }

    private static void limits() {
        good(times("set a1;", 40), 40, 0);
        bad(times("set a1;", 40) + "set a1;", 4, 280);
        bad(times("set a1;", 40) + " \n do", 4, 283);
        bad(times("set a1;", 40) + "both", 4, 280);
        bad(times("set a1;", 40) + "ab", 1, 280);
        bad(times("set a1;", 39) + "both{set", 4, 278);
        good(times("set a1;", 39) + "both{}{}", 40, 0);
        good("both{both{both{both{}{}}{}}{}}{}", 4, 0);
        bad("both{both{both{both{both{}{}}{}}{}}{}}{}", 4, 20);
        bad("both{if a<1{again a<1{both{ if a<1", 4, 28);
        bad("both{}{both{}{both{}{both{}{ again", 4, 29);
        good("both{both{both{both{}{}}{both{}{}}}{}}{} both{}{}", 6, 0);
        good("both{both{both{both{ set a 1; do ab role 1 due 1; }{}}{}}{}}{}", 6, 1);
        bad("both{both{both{both{ set a 1; do ab role 9 due 1; }{}}{}}{}}{}", 3, 41);
        StringBuilder full = new StringBuilder("set a 1;");
        while (full.length() < 300) {
            full.append(' ');
        }
        good(full.toString(), 1, 0);
        full.setCharAt(299, 'x');
        bad(full.toString(), 1, 299);
        full.setCharAt(299, ' ');
        full.setCharAt(7, ' ');
        bad(full.toString(), 1, 300);
    }

    private static void agains() {
        String task = "do ab role 1 due 1;";
        bad("again a < 1 { }", 5, 14);
        bad("again a < 1 { set a 1; }", 5, 23);
        bad("again a < 1 { both { } { } }", 5, 27);
        bad("again a < 1 { if a < 1 { " + task + " } else { } }", 5, 56);
        bad("again a < 1 { if a < 1 { } else { " + task + " } }", 5, 56);
        good("again a < 1 { if a < 1 { " + task + " } else { do cd role 1 due 1; } }", 4, 2);
        good("again a < 1 { both { " + task + " } { } }", 3, 1);
        good("again a < 1 { both { } { " + task + " } }", 3, 1);
        good("again a < 1 { set a 1; " + task + " set a 2; }", 4, 1);
        good("again a < 1 { again a < 1 { " + task + " } }", 3, 1);
        good("again a < 1 { if a < 1 { " + task + " } else { again a < 1 { do cd role 1 due 1; } } }", 5, 2);
        bad("again a < 1 { again a < 1 { } " + task + " }", 5, 28);
        bad(task + " again a < 1 { } " , 5, 34);
        bad("again a < 1 { both { if a < 1 { " + task + " } else { } } { } }", 5, 69);
        good("again a < 1 { both { if a < 1 { " + task + " } else { } } { } do cd role 1 due 1; }", 5, 2);
        bad("again a < 1 { " + task + " } again b < 2 { }", 5, 50);
        bad("if a < 1 { " + task + " } else { again a < 1 { } }", 5, 54);
    }
}
