/** Counts and prints the answers that are not as due, and feeds texts. */
final class Check {
    private final String name;
    private String sentence = "";
    private int made = 0;
    private int wrong = 0;

    Check(String name) {
        this.name = name;
    }

    /** What is tested from here on: a sentence of the document, with the number of the promise it is seen by. */
    void promise(int number, String words) {
        sentence = "promise " + number + " (" + words + "): ";
    }

    void same(String what, long got, long want) {
        made++;
        if (got != want) {
            wrong++;
            System.out.println(name + ": " + sentence + what + " answered " + got + ", due is " + want);
        }
    }

    void same(String what, boolean got, boolean want) {
        same(what, got ? 1 : 0, want ? 1 : 0);
    }

    boolean isClean() {
        return wrong == 0;
    }

    void finish() {
        System.out.println(name + ": " + made + " answers, " + wrong + " not as due");
        if (wrong != 0 || made == 0) {
            System.exit(1);
        }
    }

    /** Puts the text behind the tape; characters are bytes. */
    static void feed(TaskHouse x, String text) {
        int before = x.about(6);
        for (int i = 0; i < text.length(); i += 20) {
            x.feed(four(text, i), four(text, i + 4), four(text, i + 8), four(text, i + 12), four(text, i + 16));
        }
        x.end(before + text.length());
    }

    static int four(String text, int from) {
        int four = 0;
        for (int i = from; i < from + 4; i++) {
            four = four << 8 | (i < text.length() ? text.charAt(i) & 255 : 32);
        }
        return four;
    }

    static int tell(TaskHouse x, String text) {
        feed(x, text);
        return x.business();
    }

    /** A new house with this business, which must be without a fault. */
    static TaskHouse house(String text) {
        TaskHouse x = new TaskHouse();
        if (tell(x, text) < 0) {
            throw new IllegalStateException("fault " + x.fault(0) + " at " + x.fault(1) + " in " + text);
        }
        return x;
    }
}
