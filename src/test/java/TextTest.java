/** Promise 36: TEXTS that tell something, and where FAULTS stand. */
public final class TextTest {
    private static final String FULL_TEXT =
        "meat4;fur 03;doll2;side1greed050trust09;home01 04 099;heap00 02 099;worth01 00 020;frost09";

    public static void main(String[] args) {
        allIsTold();
        faults();
        faultChangesNothing();
        manyItems();
        emptyBehind();
        Check.end("TextTest");
    }

    private static void allIsTold() {
        HedgeHeaps x = new HedgeHeaps();
        Check.due(FULL_TEXT, Check.tell(x, FULL_TEXT), 8);
        Check.due("kind of 4", x.kind(4, 0), 3);
        Check.due("kind of 3", x.kind(3, 0), 4);
        Check.due("kind of 2", x.kind(2, 0), 6);
        Check.due("greed of 1", x.side(1, 0, 0), 50);
        Check.due("trust of 1", x.side(1, 1, 0), 9);
        Check.due("greed of 0", x.side(0, 0, 0), 2);
        Check.due("home", x.of(1, 4, Check.HOME), 99);
        Check.due("heap", x.of(0, 2, Check.HEAP), 99);
        Check.due("worth", x.of(1, 0, Check.WORTH), 20);
        Check.due("frost", x.now(5), 9);
        Check.due("kinds", Check.tell(x, "thing 4;food 3 ; cloth 2; tool 1"), 4);
        int[] kinds = {0, 5, 2, 1, 0};
        for (int thing = 0; thing < 5; thing++) {
            Check.due("kind of " + thing, x.kind(thing, 0), kinds[thing]);
        }
        Check.due("the later counts", Check.tell(x, "frost 1;frost 2;side 0 greed 4;side 0 trust 3"), 4);
        Check.due("frost", x.now(5), 2);
        Check.due("greed stays", x.side(0, 0, 0), 4);
        Check.due("trust", x.side(0, 1, 0), 3);
        Check.due("blanks", Check.tell(x, "   frost   7   "), 1);
        Check.due("frost", x.now(5), 7);
        String noughts = "side 0 greed 0 trust 0;home 0 0 0;heap 0 0 0;worth 0 0 0;frost 0;thing 0";
        x.change(0, 0, Check.HEAP, 3);
        Check.due("noughts", Check.tell(x, noughts), 6);
        Check.due("greed", x.side(0, 0, 2), 0);
        Check.due("trust", x.side(0, 1, 2), 0);
        Check.due("frost", x.now(5), 0);
        for (int what = 0; what < 3; what++) {
            Check.due("of 0", x.of(0, 0, what), 0);
        }
        Check.due("a side alone tells nothing, and is an ITEM", Check.tell(x, "side 0"), 1);
        Check.due("so it is between others", Check.tell(x, "side1;frost 3;side0 ;side 1 "), 4);
        Check.due("greed stays", x.side(0, 0, 2), 2);
        Check.due("trust stays", x.side(0, 1, 2), 2);
        Check.due("leading noughts", Check.tell(x, "frost 0000000000000000000000000008"), 1);
        Check.due("frost", x.now(5), 8);
    }

    private static void fault(String text, int fault) {
        HedgeHeaps x = new HedgeHeaps();
        Check.due("'" + text + "'", Check.tell(x, text), -1 - fault);
        Check.due("THE TAPE behind '" + text + "'", x.count(5), 0);
        Check.due("no finding by '" + text + "'", x.status(-1), 0);
    }

    private static void faults() {
        fault("", 0);
        fault("   ", 3);
        fault(";", 0);
        fault("  ; frost 1", 2);
        fault("3", 0);
        fault("frost", 5);
        fault("frost ", 6);
        fault("frost 1;", 8);
        fault("frost 1; ", 9);
        fault("frost 1;;frost 2", 8);
        fault("frost 1 frost 2", 8);
        fault("frost 1 2", 8);
        fault("frost;", 5);
        fault("frost 10", 6);
        fault("frost 1000", 6);
        fault("frost 99999999999999999999999", 6);
        fault("frost 4294967297", 6);
        fault("frost -1", 6);
        fault("frost 1.", 7);
        fault("frost\t1", 5);
        fault("frost\n1", 5);
        fault("Frost 1", 0);
        fault("fRost 1", 0);
        fault("frosty 1", 0);
        fault("fros 1", 0);
        fault("frostz 1", 0);
        fault("azfrost 1", 0);
        fault("cool 1", 0);
        fault("toil 1", 0);
        fault("tooo 1", 0);
        fault("side 0 breed 1", 7);
        fault("side 0 grees 1", 7);
        fault("frost 1{", 7);
        fault("frost 1`", 7);
        fault("frost 1/", 7);
        fault("frost 1:", 7);
        fault("frost :", 6);
        fault("frost1x", 6);
        fault("frost x", 6);
        fault("frost \u00e9", 6);
        fault("greed 1", 0);
        fault("trust 1", 0);
        fault("snow 1", 0);
        fault("thing", 5);
        fault("thing 5", 6);
        fault("food 5", 5);
        fault("food food", 5);
        fault("side", 4);
        fault("side 2", 5);
        fault("side 0 greed", 12);
        fault("side 0 greed 51", 13);
        fault("side 0 greed trust", 13);
        fault("side 0 trust", 12);
        fault("side 0 trust 10", 13);
        fault("side 0 trust 1 greed 1", 15);
        fault("side 0 greed 1 greed 1", 15);
        fault("side 0 trust 1 trust 1", 15);
        fault("side 0 frost 1", 7);
        fault("side 0 1", 7);
        fault("home", 4);
        fault("home 2 0 1", 5);
        fault("home 0", 6);
        fault("home 0 5 1", 7);
        fault("home 0 0", 8);
        fault("home 0 0 100", 9);
        fault("home 0 0 1 1", 11);
        fault("home 000", 8);
        fault("heap 2 0 1", 5);
        fault("heap 0 5 1", 7);
        fault("heap 0 0 100", 9);
        fault("heap 0 0;", 8);
        fault("worth 2 0 1", 6);
        fault("worth 0 5 1", 8);
        fault("worth 0 0 21", 10);
        fault("worth 0 0 x", 10);
    }

    private static void faultChangesNothing() {
        HedgeHeaps x = new HedgeHeaps();
        String text = "frost 3;food 0;home 0 0 7;heap 1 1 8;worth 0 2 9;side 1 greed 7 trust 8;gold 1";
        Check.due(text, Check.tell(x, text), -1 - text.indexOf("gold"));
        Check.due("frost", x.now(5), 0);
        Check.due("kind", x.kind(0, 0), 0);
        Check.due("home", x.of(0, 0, Check.HOME), 10);
        Check.due("heap", x.of(1, 1, Check.HEAP), 0);
        Check.due("worth", x.of(0, 2, Check.WORTH), 5);
        Check.due("greed", x.side(1, 0, 2), 2);
        Check.due("trust", x.side(1, 1, 5), 5);
        Check.due("what the FAULTY one told is forgotten", Check.tell(x, "frost 2"), 1);
        Check.due("kind", x.kind(0, 0), 0);
        Check.due("home", x.of(0, 0, Check.HOME), 10);
        x.image();
        x.nights(3);
        Check.due("nor does a text look AHEAD", x.struck(), Check.NONE);
        Check.due("a text keeps the night", Check.tell(x, "frost 3"), 1);
        Check.due("night", x.now(0), 3);
    }

    private static void manyItems() {
        HedgeHeaps x = new HedgeHeaps();
        StringBuilder text = new StringBuilder("fur0");
        for (int i = 1; i < 24; i++) {
            text.append(";fur").append(i % 5);
        }
        Check.due("24 items", Check.tell(x, text.toString()), 24);
        Check.due("a full tape", x.feed(0, 1), 1);
        text.append(" ");
        Check.due("120 bytes", Check.tell(x, text.toString()), 24);
    }

    private static void emptyBehind() {
        HedgeHeaps x = new HedgeHeaps();
        Check.tell(x, "frost 9");
        Check.due("THE TAPE is empty", x.count(5), 0);
        x.frost(1);
        Check.due("what was read isn't there", x.text(), -1);
        Check.due("frost", x.now(5), 1);
        // Shorter than what stood there before: nothing of that may be read on.
        Check.tell(x, "home 0 0 12");
        Check.due("a shorter one", Check.tell(x, "home 0 0 1"), 1);
        Check.due("home", x.of(0, 0, Check.HOME), 1);
        Check.due("a shorter one", Check.tell(x, "home 0 0"), -9);
        Check.due("a shorter one", Check.tell(x, "ho"), -1);
        Check.due("a longer word", Check.tell(x, "frosts 1"), -1);
        Check.due("a shorter one", Check.tell(x, "frost"), -6);
        Check.due("letters to the end", Check.tell(x, "frost 1;" + "a".repeat(112)), -9);
        Check.due("digits to the end", Check.tell(x, "frost 1" + "0".repeat(113)), -7);
        Check.due("blanks to the end", Check.tell(x, "frost 1;" + " ".repeat(112)), -121);
    }
}
