/**
 * Promise 36 against another reader, which tells a new object by the other calls what a TEXT tells: at the edges of
 * each form of an ITEM, at each place where a TEXT may end, with one sign other, and by random TEXTS.
 */
public final class ReaderTest {
    private static final int RANDOM_TEXTS = 6000;
    private static final String[][] FORMS = TextByHand.FORMS;
    private static final String ODD_SIGNS = "azAZ09 ;/:`{-.,\t\n\r_\u0000\u0080\u00e9\u00ff";

    /** What a TEXT can tell, told to an object by its calls. */
    private static final class Face implements TextByHand.Told {
        private final HedgeHeaps x;

        private Face(HedgeHeaps x) {
            this.x = x;
        }

        @Override
        public int kind(int thing, int v) {
            return x.kind(thing, v);
        }

        @Override
        public int change(int side, int thing, int what, int v) {
            return x.change(side, thing, what, v);
        }

        @Override
        public int side(int side, int what, int v) {
            return x.side(side, what, v);
        }

        @Override
        public int frost(int v) {
            return x.frost(v);
        }
    }

    public static void main(String[] args) {
        edgesOfForms();
        numbersOfManyDigits();
        endsTooEarly();
        oneSignOther();
        wordsAlone();
        randomTexts();
        Check.end("ReaderTest");
    }

    /** One object is told by the TEXT, another one by hand; both had a night before. */
    private static void check(String text) {
        TextByHand reader = new TextByHand(text);
        int want = reader.answer();
        HedgeHeaps x = new HedgeHeaps();
        HedgeHeaps y = new HedgeHeaps();
        x.nights(1);
        y.nights(1);
        Check.due("'" + text + "'", Check.tell(x, text), want);
        if (want > 0) {
            reader.tellTo(new Face(y));
        }
        Check.due("no finding by '" + text + "'", x.status(-1), 0);
        Whole.same("'" + text + "'", x, y);
    }

    /** Each NUMBER of each form at its least, at its most, and one above; all others at both ends. */
    private static void edgesOfForms() {
        for (String[] form : FORMS) {
            for (int i = 0; i < form.length; i++) {
                for (int base = 0; base < 2; base++) {
                    boolean number = Character.isDigit(form[i].charAt(0));
                    for (int v = 0; v < (number ? 5 : 1); v++) {
                        String[] parts = form.clone();
                        for (int j = 0; j < parts.length; j++) {
                            parts[j] = base == 0 && Character.isDigit(form[j].charAt(0)) ? "0" : form[j];
                        }
                        if (number) {
                            int most = Integer.parseInt(form[i]);
                            parts[i] = String.valueOf(new int[] {0, most, most + 1, 999, 1000}[v]);
                        }
                        check(String.join(" ", parts));
                        check("doll 4;" + String.join(" ", parts) + ";frost 3");
                    }
                }
            }
        }
    }

    private static void numbersOfManyDigits() {
        String[] numbers = {"00", "09", "010", "0000000009", "999", "1000", "2147483648", "4294967296", "4294967297",
            "18446744073709551616", "18446744073709551617", "99999999999999999999999999999999", "0x1", "1e0", "-1", "+1"};
        for (String n : numbers) {
            check("frost " + n);
            check("side " + n + " greed 1");
            check("side 1 greed " + n);
            check("home 0 1 " + n + ";frost 1");
            check("doll" + n);
        }
        check("frost " + "0".repeat(113) + "9");
        check("frost " + "0".repeat(112) + "10");
    }

    private static void endsTooEarly() {
        String whole = " side 0 greed 50 trust 9 ;home 1 4 99;side1trust0; worth 0 0 20 ; fur 3;frost 9 ";
        for (int n = 0; n <= whole.length(); n++) {
            check(whole.substring(0, n));
            check(whole.substring(0, n) + "  ");
            check(whole.substring(0, n) + ";");
            check(whole.substring(n));
        }
    }

    private static void oneSignOther() {
        String whole = "side 0 greed 5 trust 9;home 1 4 9;frost 9";
        for (int at = 0; at <= whole.length(); at++) {
            for (int i = 0; i < ODD_SIGNS.length(); i++) {
                check(whole.substring(0, at) + ODD_SIGNS.charAt(i) + whole.substring(at));
                check(whole.substring(0, at) + ODD_SIGNS.charAt(i) + whole.substring(Math.min(at + 1, whole.length())));
            }
        }
    }

    /** Each WORD, one sign less, one more, and each WORD where another one is wanted. */
    private static void wordsAlone() {
        String[] words = {"thing", "food", "cloth", "meat", "fur", "tool", "doll", "side", "greed", "trust", "home",
            "worth", "heap", "frost", "item", "night", "a", "z"};
        for (String word : words) {
            check(word);
            check(word + " 0");
            check(word + " 0 0 0");
            check(word.substring(1) + " 0");
            check(word.substring(0, word.length() - 1) + " 0");
            check(word + "s 0");
            check("s" + word + " 0");
            check("side 0 " + word + " 1");
            check("side 0 greed 1 " + word + " 1");
            check("side 0 trust 1 " + word + " 1");
            check("side " + word);
            check("home 0 " + word);
            check("frost 1 " + word);
            check("frost 1;" + word);
        }
    }

    private static void randomTexts() {
        Dice dice = new Dice(36);
        for (int run = 0; run < RANDOM_TEXTS; run++) {
            StringBuilder text = new StringBuilder(TextByHand.random(dice));
            for (int spoilt = dice.next(3); spoilt > 0; spoilt--) {
                int at = dice.next(text.length());
                if (dice.next(2) == 0) {
                    text.deleteCharAt(at);
                } else {
                    text.insert(at, ODD_SIGNS.charAt(dice.next(ODD_SIGNS.length())));
                }
            }
            check(text.substring(0, Math.min(120, text.length())));
        }
    }
}
