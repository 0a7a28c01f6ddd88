/** What all tests of the project share: counting what was not due, findings, texts. */
final class Check {
    static final int BEYOND = -1000001;
    static final int FULL = -1000002;
    static final int KIND = -1000003;
    static final int NONE = -1000004;
    static final int STATE = -1000005;
    static final int MISSING = -1000006;
    static final int SIZE = -1000007;

    static final int HOME = 0;
    static final int HEAP = 1;
    static final int WORTH = 2;

    private static int asked = 0;
    private static int wrong = 0;

    private Check() {
    }

    static void due(String what, long got, long want) {
        asked++;
        if (got != want) {
            wrong++;
            System.out.println(what + ": answered " + got + ", due is " + want);
        }
    }

    static void holds(String what, boolean held) {
        due(what, held ? 1 : 0, 1);
    }

    /** Feeds a text byte by byte, and gives what text() answers. */
    static int tell(HedgeHeaps x, String text) {
        x.wipe();
        for (int i = 0; i < text.length(); i++) {
            due("feed of " + text, x.feed(text.charAt(i), 1), i + 1);
        }
        return x.text();
    }

    static void end(String name) {
        System.out.println(name + ": " + asked + " answers, " + wrong + " not as due");
        if (wrong != 0) {
            System.exit(1);
        }
    }
}
