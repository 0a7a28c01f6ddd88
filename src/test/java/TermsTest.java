/** The sentences under "Terms": each at its edges, in a test of its own; answers worked out by hand. */
public final class TermsTest {
    private static final int HOME = Check.HOME;
    private static final int HEAP = Check.HEAP;
    private static final int WORTH = Check.WORTH;
    private static final int GREED = 0;
    private static final int TRUST = 1;
    private static final int NOBODY_TAKES = 50;

    private static final int THING = 0;
    private static final int FOOD = 1;
    private static final int CLOTH = 2;
    private static final int MEAT = 3;
    private static final int FUR = 4;
    private static final int TOOL = 5;
    private static final int DOLL = 6;

    private static String sentence = "";

    private static void due(String what, long got, long want) {
        Check.due("terms, " + sentence + ": " + what, got, want);
    }

    public static void main(String[] args) {
        sentence = "findings"; findingsAreTheseNumbers(); zIsNoFinding();
        sentence = "quotients are cut"; quotientsAreCut();
        sentence = "1 sides"; allAtFirst(); eachFromLeastToMost(); nothingIsShared();
        sentence = "1 PRICE"; priceOfNone(); priceOfOne(); priceOfMost(); frostForEach();
        sentence = "1 EATEN"; eatenOfFew(); eatenInFrost();
        sentence = "1 VALUE"; valueOfHeaps(); homeAndHeapTogether();
        sentence = "2 NIGHT"; evenAndOddNights();
        sentence = "2 CONTENT"; contentAtEmptyHeaps(); contentByGreed(); contentWithoutTrust();
        sentence = "2 TAKES"; takesTo99(); takesTrustTo9(); takesWithoutOwn();
        sentence = "2 LESS"; lessOfSeveral(); lessHomeIsFull(); lessOfTheLast(); nothingWithoutHeap();
        sentence = "2 TRUST 0"; withdraws(); withdrawsTo99(); trustOneIsTrust();
        sentence = "2 birds"; birdsEatWhatThereIs(); birdsComeToEachHeap(); birdsComeBehindTheDeed(); birdsInFrost();
        sentence = "2 BOOKS"; booksHoldTwelve(); booksKeepAsItWas();
        sentence = "2 DRAWS"; drawsWrapAround();
        sentence = "3 THE TAPE"; tapeHolds120(); tapeIsEmptyBehindText();
        sentence = "3 SPOTS"; spots();
        sentence = "3 SHEETS"; sheetsWrapAround(); sheetsAreRowsOf40();
        Check.end("TermsTest");
    }

    // ---- findings

    private static void findingsAreTheseNumbers() {
        HedgeHeaps x = new HedgeHeaps();
        due("BEYOND", x.frost(10), -1000001);
        for (int i = 0; i < 30; i++) {
            x.feed(0, 4);
        }
        due("FULL", x.feed(0, 1), -1000002);
        x.hold(0, 0);
        due("KIND", x.as(0, FOOD), -1000003);
        due("NONE", x.undo(), -1000004);
        due("STATE", x.steal(0), -1000005);
        due("MISSING", x.load(0), -1000006);
        due("SIZE", x.sheet(0, 8, -1), -1000007);
        for (int which = 0; which < 7; which++) {
            due("status(" + which + ")", x.status(which), 1);
        }
        due("status(-1)", x.status(-1), 7);
    }

    private static void zIsNoFinding() {
        HedgeHeaps x = new HedgeHeaps();
        int was = 1;
        for (int z : new int[] {-1000001, -1000004, -1000007, -1000008, Integer.MIN_VALUE, Integer.MAX_VALUE, 0}) {
            due("seed(" + z + ")", x.seed(z), was);
            due("count(6)", x.count(6), z);
            was = z;
        }
        due("no finding", x.status(-1), 0);
    }

    private static void quotientsAreCut() {
        HedgeHeaps x = new HedgeHeaps();
        x.kind(0, TOOL);
        int[] two = {0, 1, 3, 4, 6, 7, 9, 10, 12, 13, 15, 16, 18, 19, 21, 22, 24, 25, 27, 28, 30};
        for (int worth = 0; worth <= 20; worth++) {
            x.change(1, 0, WORTH, worth);
            due("two tools of " + worth, x.price(1, 0, 2), two[worth]);
            due("four tools of " + worth, x.price(1, 0, 4), two[worth] + 2 * (two[worth] - worth));
        }
    }

    // ---- 1. sides, things

    private static void allAtFirst() {
        HedgeHeaps x = new HedgeHeaps();
        for (int place = 0; place < 10; place++) {
            due("HOME", x.of(place / 5, place % 5, HOME), 10);
            due("HEAP", x.of(place / 5, place % 5, HEAP), 0);
            due("WORTH", x.of(place / 5, place % 5, WORTH), 5);
        }
        for (int t = 0; t < 5; t++) {
            due("KIND", x.kind(t, DOLL), THING);
        }
        for (int side = 0; side < 2; side++) {
            due("GREED", x.side(side, GREED, 9), 2);
            due("TRUST", x.side(side, TRUST, 9), 5);
        }
        due("FROST", x.frost(9), 0);
        due("NIGHT", x.count(0), 0);
        due("z", x.count(6), 1);
    }

    /** Each number of each side and thing by itself: to its most, to its least, and nothing else with it. */
    private static void eachFromLeastToMost() {
        HedgeHeaps x = new HedgeHeaps();
        int[] most = {99, 99, 20};
        for (int i = 0; i < 30; i++) {
            due("to its most", x.change(i / 15, i / 3 % 5, i % 3, most[i % 3]), new int[] {10, 0, 5}[i % 3]);
        }
        for (int i = 0; i < 30; i++) {
            due("to its least", x.change(i / 15, i / 3 % 5, i % 3, 0), most[i % 3]);
        }
        for (int i = 0; i < 30; i++) {
            due("to one of its own", x.change(i / 15, i / 3 % 5, i % 3, i % 21), 0);
        }
        for (int i = 0; i < 30; i++) {
            due("that one", x.of(i / 15, i / 3 % 5, i % 3), i % 21);
        }
        for (int t = 0; t < 5; t++) {
            due("to the most KIND", x.kind(t, DOLL), THING);
            due("to a KIND of its own", x.kind(t, t), DOLL);
        }
        for (int t = 0; t < 5; t++) {
            due("that KIND", x.kind(t, THING), t);
        }
        int[] first = {2, 5};
        int[] top = {50, 9};
        for (int i = 0; i < 4; i++) {
            due("side to its most", x.side(i / 2, i % 2, top[i % 2]), first[i % 2]);
        }
        for (int i = 0; i < 4; i++) {
            due("side to its least", x.side(i / 2, i % 2, 0), top[i % 2]);
            due("side to one of its own", x.side(i / 2, i % 2, 3 + i), 0);
        }
        for (int i = 0; i < 4; i++) {
            due("that one of a side", x.side(i / 2, i % 2, 0), 3 + i);
        }
        due("FROST to its most", x.frost(9), 0);
        due("FROST to its least", x.frost(0), 9);
        due("FROST", x.frost(0), 0);
    }

    /** Two objects have nothing in common. */
    private static void nothingIsShared() {
        HedgeHeaps x = new HedgeHeaps();
        HedgeHeaps y = new HedgeHeaps();
        HedgeHeaps filled = Whole.filled();
        due("filled, too", filled.count(0), 5);
        Whole.same("1 of two objects the other", x, new HedgeHeaps());
        Whole.same("1 of two objects the other", y, new HedgeHeaps());
    }

    private static HedgeHeaps ofKind(int kind, int worth, int frost) {
        HedgeHeaps x = new HedgeHeaps();
        x.kind(4, kind);
        x.change(1, 4, WORTH, worth);
        x.frost(frost);
        return x;
    }

    private static void priceOfNone() {
        for (int kind = 0; kind < 7; kind++) {
            due("none of kind " + kind, ofKind(kind, 20, 9).price(1, 4, 0), 0);
        }
    }

    private static void priceOfOne() {
        int[] one = {20, 20, 29, 20, 38, 20, 23};
        int[] ofNoWorth = {0, 0, 9, 0, 18, 0, 3};
        for (int kind = 0; kind < 7; kind++) {
            due("one of kind " + kind, ofKind(kind, 20, 9).price(1, 4, 1), one[kind]);
            due("one of kind " + kind + ", of no WORTH", ofKind(kind, 0, 9).price(1, 4, 1), ofNoWorth[kind]);
        }
    }

    private static void priceOfMost() {
        int[] most = {1980, 1980, 2871, 1980, 3762, 1000, 1003};
        int[] ofWorthOne = {99, 99, 99, 99, 99, 1, 4};
        int[] ofNoWorth = {0, 0, 0, 0, 0, 0, 3};
        for (int kind = 0; kind < 7; kind++) {
            due("99 of kind " + kind, ofKind(kind, 20, 9).price(1, 4, 99), most[kind]);
            due("99 of WORTH 1", ofKind(kind, 1, 0).price(1, 4, 99), ofWorthOne[kind]);
            due("99 of no WORTH", ofKind(kind, 0, 0).price(1, 4, 99), ofNoWorth[kind]);
        }
    }

    private static void frostForEach() {
        int[] perFrost = {0, 0, 3, 0, 6, 0, 0};
        int[] bare = {21, 21, 21, 21, 21, 13, 16};
        for (int kind = 0; kind < 7; kind++) {
            for (int frost = 0; frost < 10; frost++) {
                due("3 of kind " + kind + " in frost " + frost, ofKind(kind, 7, frost).price(1, 4, 3),
                    bare[kind] + perFrost[kind] * frost);
            }
        }
    }

    private static void eatenOfFew() {
        int[][] gone = {{0, 0, 0, 0, 0}, {0, 1, 1, 1, 1}, {0, 0, 0, 0, 0}, {0, 1, 2, 2, 2}, {0, 0, 0, 0, 0},
            {0, 0, 0, 0, 0}, {0, 0, 0, 0, 0}};
        int[] n = {0, 1, 2, 3, 99};
        for (int kind = 0; kind < 7; kind++) {
            for (int i = 0; i < n.length; i++) {
                due(n[i] + " of kind " + kind, ofKind(kind, 5, 4).eaten(4, n[i]), gone[kind][i]);
            }
        }
    }

    private static void eatenInFrost() {
        int[] meat = {2, 2, 2, 2, 2, 0, 0, 0, 0, 0};
        for (int frost = 0; frost < 10; frost++) {
            due("meat in frost " + frost, ofKind(MEAT, 5, frost).eaten(4, 99), meat[frost]);
            due("one of meat in frost " + frost, ofKind(MEAT, 5, frost).eaten(4, 1), meat[frost] / 2);
            due("food in frost " + frost, ofKind(FOOD, 5, frost).eaten(4, 99), 1);
        }
    }

    private static void valueOfHeaps() {
        HedgeHeaps x = new HedgeHeaps();
        for (int t = 0; t < 5; t++) {
            x.kind(t, DOLL);
        }
        for (int i = 0; i < 4; i++) {
            due("of an empty HEAP", x.value(i / 2, i % 2), 0);
        }
        x.frost(9);
        for (int t = 0; t < 5; t++) {
            x.kind(t, FUR);
            x.change(0, t, HEAP, 99);
            x.change(1, t, WORTH, 20);
        }
        due("of the fullest HEAP for side 1", x.value(1, 0), 18810);
        due("of the fullest HEAP for side 0", x.value(0, 0), 5 * 99 * 23);
        due("of the other HEAP", x.value(1, 1), 0);
        due("the fullest is taken", x.content(1), 1);
        for (int t = 0; t < 5; t++) {
            x.change(0, t, HEAP, 0);
            x.change(0, t, WORTH, t);
            x.kind(t, THING);
        }
        for (int t = 0; t < 5; t++) {
            x.change(1, t, HEAP, 1);
            due("of things 0 to " + t, x.value(0, 1), t * (t + 1) / 2);
        }
    }

    /** Tools at HOME and in the HEAP: but one of them is the first one. */
    private static void homeAndHeapTogether() {
        HedgeHeaps x = new HedgeHeaps();
        x.kind(0, TOOL);
        x.change(0, 0, WORTH, 9);
        x.change(0, 0, HOME, 99);
        x.change(0, 0, HEAP, 99);
        x.side(0, TRUST, 0);
        // 198 tools are 9 + 197 * 4, 99 are 9 + 98 * 4.
        due("198 become 99", x.ahead(1, 3), -396);
        x.change(0, 0, HOME, 1);
        x.change(0, 0, HEAP, 1);
        due("two stay two", x.ahead(1, 3), 0);
    }

    // ---- 2. nights

    private static void evenAndOddNights() {
        HedgeHeaps x = new HedgeHeaps();
        for (int night = 0; night < 6; night++) {
            due("NIGHT", x.count(0), night);
            x.nights(1);
            due("whose", x.book(0, 1), night % 2);
        }
        HedgeHeaps y = Whole.atNight(9997);
        y.nights(1);
        due("9997 is side 1's", y.book(0, 1), 1);
        y.nights(1);
        due("9998 is side 0's", y.book(0, 1), 0);
        due("9999 at most", y.nights(1), Check.STATE);
        due("NIGHT", y.count(0), 9999);
        due("BOOKS, too", y.book(0, 1), 0);
    }

    private static void contentAtEmptyHeaps() {
        HedgeHeaps x = new HedgeHeaps();
        x.side(0, GREED, 0);
        x.side(1, GREED, 0);
        due("both are empty", x.content(0) + x.content(1), 0);
        x.change(0, 0, HEAP, 1);
        x.change(0, 0, WORTH, 0);
        due("the other's is empty, its own worth nothing", x.content(0), 0);
        x.change(1, 0, WORTH, 0);
        due("one of no WORTH for nothing", x.content(1), 1);
        x.side(1, GREED, 1);
        due("one of no WORTH is less than 1", x.content(1), 0);
        due("nor is it taken", x.does(1), 0);
    }

    private static void contentByGreed() {
        HedgeHeaps x = new HedgeHeaps();
        x.change(1, 2, HEAP, 14);
        x.change(0, 3, HEAP, 4);
        // 70 for 20: just 50 more.
        for (int greed = 0; greed <= 50; greed++) {
            x.side(0, GREED, greed);
            due("50 more, GREED " + greed, x.content(0), 1);
        }
        x.change(1, 2, WORTH, 20);
        due("by its own WORTHS", x.content(0), 1);
        x.change(0, 2, WORTH, 4);
        // 56 for 20: 36 more.
        for (int greed = 0; greed <= 50; greed++) {
            x.side(0, GREED, greed);
            due("36 more, GREED " + greed, x.content(0), greed <= 36 ? 1 : 0);
            due("so it DOES", x.does(0), greed <= 36 ? 1 : 2);
        }
    }

    private static void contentWithoutTrust() {
        HedgeHeaps x = new HedgeHeaps();
        x.change(1, 2, HEAP, 14);
        x.side(0, TRUST, 0);
        due("CONTENT, but without TRUST", x.content(0), 1);
        due("it DOES nothing", x.does(0), 0);
    }

    private static void takesTo99() {
        int[][] both = {{0, 0, 0}, {0, 99, 99}, {98, 1, 99}, {98, 2, 99}, {99, 1, 99}, {99, 99, 99}, {1, 98, 99}, {97, 1, 98}};
        for (int[] b : both) {
            HedgeHeaps x = new HedgeHeaps();
            x.change(0, 2, HOME, b[0]);
            x.change(1, 2, HEAP, b[1]);
            x.change(1, 0, HEAP, 1);
            x.change(1, 3, HOME, b[0]);
            x.change(0, 3, HEAP, b[1]);
            x.change(0, 3, WORTH, 0);
            due("it TAKES", x.nights(1), 1);
            due(b[1] + " come to side 0's " + b[0], x.of(0, 2, HOME), b[2]);
            due(b[1] + " come to side 1's " + b[0], x.of(1, 3, HOME), b[2]);
            due("HEAPS", x.now(1) + x.now(2), 0);
            due("side 0's own stay", x.of(0, 3, HOME), 10);
            due("side 1's own stay", x.of(1, 2, HOME), 10);
        }
    }

    private static void takesTrustTo9() {
        int[][] trusts = {{1, 0, 2, 1}, {8, 8, 9, 9}, {9, 9, 9, 9}, {9, 8, 9, 9}, {8, 9, 9, 9}, {1, 9, 2, 9}};
        for (int[] t : trusts) {
            HedgeHeaps x = new HedgeHeaps();
            x.change(1, 0, HEAP, 1);
            x.side(0, TRUST, t[0]);
            x.side(1, TRUST, t[1]);
            due("it TAKES", x.nights(1), 1);
            due("TRUST of both", x.count(3), t[2] + t[3]);
            due("its own TRUST", x.side(0, TRUST, 0), t[2]);
            due("the other's TRUST", x.side(1, TRUST, 0), t[3]);
        }
    }

    private static void takesWithoutOwn() {
        HedgeHeaps x = new HedgeHeaps();
        x.change(1, 0, HEAP, 1);
        due("for nothing, 5 for GREED 2", x.nights(1), 1);
        due("bargains", x.count(1), 1);
        x.change(0, 0, HEAP, 1);
        x.side(1, GREED, 6);
        due("5 for GREED 6", x.nights(1), 0);
        due("what was not taken stays", x.of(0, 0, HEAP), 1);
        due("bargains", x.count(1), 1);
    }

    private static void lessOfSeveral() {
        for (int first = 0; first < 5; first++) {
            HedgeHeaps x = new HedgeHeaps();
            for (int t = first; t < 5; t++) {
                x.change(1, t, HEAP, 1 + t);
            }
            due("the least of several", x.less(1), first);
            x.change(1, 4, WORTH, 6);
            due("the last is dearer by 1", x.less(1), 4);
        }
        HedgeHeaps x = new HedgeHeaps();
        x.kind(0, DOLL);
        x.change(1, 0, HEAP, 1);
        x.change(1, 1, HEAP, 1);
        x.change(1, 1, WORTH, 8);
        due("one doll of 5 is 8, as one of 8", x.less(1), 0);
        x.change(1, 0, HEAP, 2);
        due("the second doll is 2", x.less(1), 1);
        x.change(1, 1, WORTH, 1);
        due("2 is above 1", x.less(1), 0);
        x.change(1, 1, WORTH, 2);
        due("2 as 2: the least", x.less(1), 0);
        x.change(1, 0, WORTH, 0);
        x.change(1, 1, WORTH, 0);
        due("all of no WORTH: the least", x.less(1), 0);
        x.change(1, 0, HEAP, 0);
        due("of what isn't there none", x.less(1), 1);
    }

    private static void lessHomeIsFull() {
        int[][] homes = {{0, 1}, {98, 99}, {99, 99}};
        for (int[] h : homes) {
            HedgeHeaps x = new HedgeHeaps();
            x.change(0, 3, HEAP, 99);
            x.change(0, 3, HOME, h[0]);
            due("it DOES LESS", x.nights(1) + x.book(0, 0), 2);
            due("its HEAP", x.of(0, 3, HEAP), 98);
            due("HOME", x.of(0, 3, HOME), h[1]);
            due("TRUST stays", x.count(3), 10);
        }
    }

    private static void lessOfTheLast() {
        HedgeHeaps x = new HedgeHeaps();
        x.change(0, 3, HEAP, 1);
        x.nights(1);
        due("LESS", x.book(0, 0), 2);
        due("its HEAP is empty", x.now(1), 0);
        due("HOME", x.of(0, 3, HOME), 11);
    }

    private static void nothingWithoutHeap() {
        HedgeHeaps x = new HedgeHeaps();
        x.change(1, 3, HEAP, 1);
        x.side(0, GREED, 6);
        due("5 isn't 6, and its own is empty", x.nights(1), 0);
        due("nothing", x.book(0, 0), 0);
        due("the other's stays", x.of(1, 3, HEAP), 1);
        due("HOME", x.now(3), 100);
    }

    private static void withdraws() {
        HedgeHeaps x = new HedgeHeaps();
        x.side(0, TRUST, 0);
        x.change(1, 0, HEAP, 99);
        due("its own is empty: 0, though CONTENT", x.does(0), 0);
        for (int t = 0; t < 5; t++) {
            x.change(0, t, HEAP, t);
        }
        due("3, though CONTENT", x.does(0), 3);
        due("none is taken", x.nights(1), 0);
        due("3 stands in BOOKS", x.book(0, 0), 3);
        for (int t = 0; t < 5; t++) {
            due("all is HOME", x.of(0, t, HOME), 10 + t);
            due("its HEAP", x.of(0, t, HEAP), 0);
        }
        due("the other's stays", x.of(1, 0, HEAP), 99);
        due("TRUST stays", x.side(0, TRUST, 0), 0);
    }

    private static void withdrawsTo99() {
        int[][] both = {{98, 1, 99}, {98, 2, 99}, {99, 99, 99}, {0, 99, 99}, {0, 1, 1}};
        for (int[] b : both) {
            HedgeHeaps x = new HedgeHeaps();
            x.side(1, TRUST, 0);
            x.side(0, GREED, NOBODY_TAKES);
            x.change(1, 4, HOME, b[0]);
            x.change(1, 4, HEAP, b[1]);
            x.change(0, 4, WORTH, 0);
            x.nights(2);
            due("3", x.book(0, 0), 3);
            due("HOME", x.of(1, 4, HOME), b[2]);
            due("HEAP", x.of(1, 4, HEAP), 0);
        }
    }

    private static void trustOneIsTrust() {
        HedgeHeaps x = new HedgeHeaps();
        x.change(0, 0, HEAP, 1);
        x.side(0, TRUST, 1);
        due("TRUST 1", x.does(0), 2);
        x.side(0, TRUST, 0);
        due("TRUST 0", x.does(0), 3);
        x.change(0, 0, HEAP, 0);
        due("TRUST 0, its HEAP is empty", x.does(0), 0);
    }

    private static void birdsEatWhatThereIs() {
        int[][] kinds = {{FOOD, 1, 0}, {FOOD, 2, 1}, {FOOD, 99, 98}, {MEAT, 1, 0}, {MEAT, 2, 0}, {MEAT, 3, 1},
            {MEAT, 99, 97}, {THING, 1, 1}, {CLOTH, 1, 1}, {FUR, 99, 99}, {TOOL, 1, 1}, {DOLL, 99, 99}};
        for (int[] k : kinds) {
            HedgeHeaps x = new HedgeHeaps();
            x.kind(2, k[0]);
            x.side(0, TRUST, 0);
            x.change(1, 2, HEAP, k[1]);
            x.frost(4);
            due("eaten AHEAD", x.ahead(1, 2), k[1] - k[2]);
            x.nights(1);
            due("what is left of " + k[1] + " of kind " + k[0], x.of(1, 2, HEAP), k[2]);
            due("eaten ever", x.count(4), k[1] - k[2]);
            due("none at HOME", x.of(1, 2, HOME) + x.of(0, 2, HOME), 20);
        }
    }

    private static void birdsComeToEachHeap() {
        for (int place = 0; place < 10; place++) {
            HedgeHeaps x = new HedgeHeaps();
            x.kind(place % 5, MEAT);
            x.change(place / 5, place % 5, HEAP, 9);
            x.change(place / 5, place % 5, WORTH, 0);
            x.side(1 - place / 5, TRUST, 0);
            // In its own night a side takes one HOME before.
            due("two nights AHEAD", x.ahead(2, 1), 4);
            x.nights(2);
            due("what is left at place " + place, x.of(place / 5, place % 5, HEAP), 4);
            due("eaten ever", x.count(4), 4);
        }
        HedgeHeaps x = new HedgeHeaps();
        for (int place = 0; place < 10; place++) {
            x.kind(place % 5, FOOD);
            x.change(place / 5, place % 5, HEAP, 1 + place % 2);
        }
        x.side(0, TRUST, 0);
        x.side(1, TRUST, 0);
        x.nights(1);
        due("of all five of side 1 one each, side 0's are HOME", x.count(4), 5);
        due("left", x.now(2), 3);
    }

    /** What came HOME isn't eaten; what is left in either HEAP is. */
    private static void birdsComeBehindTheDeed() {
        HedgeHeaps x = new HedgeHeaps();
        x.kind(0, FOOD);
        x.kind(1, MEAT);
        x.change(1, 0, HEAP, 3);
        x.change(0, 1, HEAP, 1);
        due("TAKES", x.nights(1), 1);
        due("nothing is left for birds", x.count(4), 0);
        due("all came", x.of(0, 0, HOME) * 100 + x.of(1, 1, HOME), 1311);
        x.change(1, 0, HEAP, 2);
        x.change(0, 0, HEAP, 2);
        x.side(1, GREED, NOBODY_TAKES);
        x.nights(1);
        due("one HOME, one eaten, of the other's one", x.of(1, 0, HEAP) * 10 + x.of(0, 0, HEAP), 1);
        due("eaten ever", x.count(4), 2);
        x.side(0, TRUST, 0);
        x.nights(1);
        due("it took its own HOME", x.of(0, 0, HOME), 14);
        due("nothing eaten", x.count(4), 2);
        x.change(0, 0, HEAP, 1);
        x.change(1, 1, HEAP, 2);
        x.side(1, TRUST, 0);
        x.nights(1);
        due("the other's one is eaten, its own came HOME", x.count(4), 3);
    }

    private static void birdsInFrost() {
        for (int frost = 4; frost <= 5; frost++) {
            HedgeHeaps x = new HedgeHeaps();
            x.kind(0, MEAT);
            x.kind(1, FOOD);
            x.change(1, 0, HEAP, 5);
            x.change(1, 1, HEAP, 5);
            x.side(0, GREED, NOBODY_TAKES);
            x.frost(frost);
            x.change(0, 0, WORTH, 0);
            x.nights(1);
            due("meat in frost " + frost, x.of(1, 0, HEAP), frost == 4 ? 3 : 5);
            due("food in frost " + frost, x.of(1, 1, HEAP), 4);
        }
    }

    /** Nights of four sorts in turn; before each both have of thing 0 alone in their HEAPS. */
    private static void booksHoldTwelve() {
        for (int nights : new int[] {0, 1, 11, 12, 13, 23, 24, 25, 36, 37}) {
            HedgeHeaps x = new HedgeHeaps();
            for (int i = 0; i < nights; i++) {
                x.change(0, 0, HEAP, heapBefore(i, 0));
                x.change(1, 0, HEAP, heapBefore(i, 1));
                x.side(i % 2, TRUST, i % 4 == 2 ? 0 : 4);
                x.nights(1);
            }
            int stand = Math.min(12, nights);
            due("how many of " + nights, x.now(4), stand);
            for (int i = 0; i < stand; i++) {
                int night = nights - 1 - i;
                due("what was DONE", x.book(i, 0), new int[] {1, 2, 3, 0}[night % 4]);
                due("whose it was", x.book(i, 1), night % 2);
                due("its HEAP", x.book(i, 2), heapBefore(night, night % 2));
                due("of thing 4", x.book(i, 6), 0);
            }
            due("there are not so many", x.book(stand, 0), Check.NONE);
        }
    }

    private static int heapBefore(int night, int side) {
        switch (night % 4) {
            case 0: return side == 0 ? 0 : 3 + night;
            case 1: return side == 0 ? 0 : 1 + night;
            case 2: return side == 0 ? 2 + night : 0;
            default: return 0;
        }
    }

    /** Both HEAPS, FROST and TRUST as they were ahead of the night: told by what fits them. */
    private static void booksKeepAsItWas() {
        HedgeHeaps x = new HedgeHeaps();
        x.kind(1, FUR);
        x.frost(9);
        x.side(0, TRUST, 1);
        x.change(0, 0, HEAP, 4);
        x.change(1, 1, HEAP, 1);
        // 20 for a fur of 23, GREED 2.
        due("TAKES", x.nights(1), 1);
        x.frost(0);
        x.side(0, TRUST, 0);
        x.change(1, 1, HEAP, 99);
        x.change(0, 0, HEAP, 0);
        due("the fur was 18 and its WORTH: 4 or more", x.fits(0, 1), ((1 << 21) - 1) & ~15);
        due("GREED 0 to 3", x.greeds(0), 15);
        due("four were given: 0 to 5", x.fits(0, 0), 63);
        x.nights(11);
        due("still there", x.greeds(0), 15);
        x.nights(1);
        due("the 13th is gone", x.greeds(0), Integer.MAX_VALUE);
    }

    /** FROST, the side and the thing by the first three draws; what z is then. */
    private static void drawsWrapAround() {
        int[][] drawn = {{1, 4, 0, 1, 662824084}, {0, 8, 0, 0, -1492899873}, {-1, 7, 0, 4, 646343466},
            {Integer.MAX_VALUE, 9, 0, 2, -1501140182}, {Integer.MIN_VALUE, 6, 0, 2, 654583775},
            {-1000001, 8, 1, 1, -1915382806}};
        for (int[] d : drawn) {
            HedgeHeaps x = new HedgeHeaps();
            x.seed(d[0]);
            x.side(0, GREED, NOBODY_TAKES);
            x.side(1, GREED, NOBODY_TAKES);
            x.season(1);
            due("FROST", x.now(5), d[1]);
            due("z", x.count(6), d[4]);
            int place = d[2] * 5 + d[3];
            for (int other = 0; other < 10; other++) {
                int was = x.book(1 - other / 5, 2 + other % 5);
                due("laid by the draws", was, other == place ? 1 : 0);
            }
        }
        HedgeHeaps x = new HedgeHeaps();
        x.season(12);
        due("36 draws", x.count(6), -897876963);
    }

    // ---- 3. the tape, spots, sheets

    private static void tapeHolds120() {
        HedgeHeaps x = new HedgeHeaps();
        for (int i = 1; i <= 120; i++) {
            due("byte " + i, x.feed(i == 120 ? '1' : i > 115 ? "rost".charAt(i - 116) : i == 115 ? 'f' : ' ', 1), i);
        }
        due("no byte more", x.feed('2', 1), Check.FULL);
        due("bytes", x.count(5), 120);
        due("all 120 are read", x.text(), 1);
        due("FROST", x.now(5), 1);
        for (int i = 1; i <= 30; i++) {
            due("four", x.feed(0x20202020, 4), 4 * i);
        }
        due("the place behind 120 blanks", x.text(), -121);
    }

    private static void tapeIsEmptyBehindText() {
        HedgeHeaps x = new HedgeHeaps();
        due("a TEXT", Check.tell(x, "frost 1"), 1);
        due("bytes", x.count(5), 0);
        due("a FAULT", Check.tell(x, "frost"), -6);
        due("bytes", x.count(5), 0);
        due("nothing to read", x.text(), -1);
        due("nothing to wipe", x.wipe(), 0);
        due("from its begin", x.feed('f', 1), 1);
    }

    private static void spots() {
        HedgeHeaps x = new HedgeHeaps();
        for (int spot = 0; spot < 10; spot++) {
            due("nothing at first", x.as(spot, 0), Check.MISSING);
            due("hold", x.hold(spot, spot % 5), 1);
            due("how many", x.count(7), spot + 1);
        }
        for (int spot = 0; spot < 10; spot++) {
            due("each has its own", x.as(spot, 0), spot % 5);
        }
        for (int spot = 9; spot >= 0; spot--) {
            due("hold nothing", x.hold(spot, -1), 1);
            due("how many", x.count(7), spot);
            due("nothing", x.as(spot, 0), Check.MISSING);
        }
        due("nothing again", x.hold(0, -1), 1);
        due("how many", x.count(7), 0);
        x.hold(0, 0);
        x.hold(0, 4);
        due("another one", x.as(0, 0), 4);
        due("how many", x.count(7), 1);
    }

    /** What a number became, as far as load() tells it: 0 to 20, or -1 for all others. */
    private static int readBack(int bits, int v) {
        HedgeHeaps x = new HedgeHeaps();
        x.sheet(2, bits, 1);
        due("write(" + v + ")", x.write(2, 0, v), 1);
        return x.load(2) == 1 ? x.of(1, 0, WORTH) : -1;
    }

    private static void sheetsWrapAround() {
        int[][] of8 = {{255, -1}, {256, 0}, {257, 1}, {276, 20}, {277, -1}, {128, -1}, {127, -1}, {-256, 0}, {-236, 20},
            {-1, -1}, {-255, 1}, {65536, 0}, {Integer.MIN_VALUE, 0}, {Integer.MAX_VALUE, -1}, {20, 20}, {21, -1}};
        int[][] of16 = {{255, -1}, {256, -1}, {257, -1}, {65535, -1}, {65536, 0}, {65556, 20}, {65557, -1}, {32768, -1},
            {32767, -1}, {-65536, 0}, {-65516, 20}, {-65535, 1}, {Integer.MIN_VALUE, 0}, {Integer.MAX_VALUE, -1}, {20, 20}};
        int[][] of32 = {{256, -1}, {65536, -1}, {65556, -1}, {-65516, -1}, {Integer.MIN_VALUE, -1},
            {Integer.MAX_VALUE, -1}, {-1, -1}, {0, 0}, {20, 20}, {21, -1}};
        for (int[] v : of8) {
            due("8 bits of " + v[0], readBack(8, v[0]), v[1]);
        }
        for (int[] v : of16) {
            due("16 bits of " + v[0], readBack(16, v[0]), v[1]);
        }
        for (int[] v : of32) {
            due("32 bits of " + v[0], readBack(32, v[0]), v[1]);
        }
    }

    private static void sheetsAreRowsOf40() {
        HedgeHeaps x = new HedgeHeaps();
        for (int s = 0; s < 4; s++) {
            due("MISSING at first", x.load(s), Check.MISSING);
            due("40", x.sheet(s, 8, 40), 40);
            due("number 39", x.write(s, 39, 1 + s), 1);
            due("number 40", x.write(s, 40, 1), Check.BEYOND);
        }
        for (int s = 0; s < 4; s++) {
            x.copy(s, 39, s, 0, 1);
            due("five WORTHS", x.load(s), 5);
            due("each has its own", x.of(1, 0, WORTH), 1 + s);
            due("all others are 0", x.of(1, 1, WORTH), 0);
        }
    }
}
