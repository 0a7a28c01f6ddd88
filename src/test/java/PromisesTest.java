/** For each promise: ordinary inputs, the edges that the document names, wrong inputs. */
public final class PromisesTest {
    private static final int HOME = Check.HOME;
    private static final int HEAP = Check.HEAP;
    private static final int WORTH = Check.WORTH;
    private static final int BEYOND = Check.BEYOND;
    private static final int FULL = Check.FULL;
    private static final int KIND = Check.KIND;
    private static final int NONE = Check.NONE;
    private static final int STATE = Check.STATE;
    private static final int MISSING = Check.MISSING;
    private static final int SIZE = Check.SIZE;
    private static final int FAR_OFF = Integer.MAX_VALUE;
    private static final int FAR_BELOW = Integer.MIN_VALUE;

    private static int promise;

    private static void due(String call, long got, long want) {
        Check.due("promise " + promise + ": " + call, got, want);
    }

    public static void main(String[] args) {
        promise = 1; newObject();
        promise = 2; kind();
        promise = 3; of();
        promise = 4; change();
        promise = 5; side();
        promise = 6; frost();
        promise = 7; price();
        promise = 8; value();
        promise = 9; eaten();
        promise = 10; lay();
        promise = 11; back();
        promise = 12; content();
        promise = 13; does();
        promise = 14; less();
        promise = 15; steal();
        promise = 16; gift();
        promise = 17; nights(); birds(); edgeOfTime();
        promise = 18; now();
        promise = 19; ahead();
        promise = 20; struck();
        promise = 21; empty();
        promise = 22; best();
        promise = 23; gain();
        promise = 24; greed();
        promise = 25; kindFor();
        promise = 26; temptation();
        promise = 27; bundle();
        promise = 28; book();
        promise = 29; fits();
        promise = 30; greeds();
        promise = 31; known();
        promise = 32; season();
        promise = 33; seed();
        promise = 34; feed();
        promise = 35; wipe();
        promise = 37; hold();
        promise = 38; as();
        promise = 39; sheet();
        promise = 40; write();
        promise = 41; copy();
        promise = 42; load();
        promise = 43; judge();
        promise = 44; image();
        promise = 45; undo();
        promise = 46; tear();
        promise = 47; count();
        promise = 48; status();
        Check.end("PromisesTest");
    }

    private static void newObject() {
        HedgeHeaps x = new HedgeHeaps();
        for (int s = 0; s < 2; s++) {
            for (int t = 0; t < 5; t++) {
                due("home", x.of(s, t, HOME), 10);
                due("heap", x.of(s, t, HEAP), 0);
                due("worth", x.of(s, t, WORTH), 5);
            }
            due("greed", x.side(s, 0, 2), 2);
            due("trust", x.side(s, 1, 5), 5);
        }
        for (int t = 0; t < 5; t++) {
            due("kind", x.kind(t, 0), 0);
        }
        due("frost", x.frost(0), 0);
        int[] now = {0, 0, 0, 100, 0, 0, 0};
        for (int what = 0; what < now.length; what++) {
            due("now(" + what + ")", x.now(what), now[what]);
        }
        int[] count = {0, 0, 0, 10, 0, 0, 1, 0};
        for (int what = 0; what < count.length; what++) {
            due("count(" + what + ")", x.count(what), count[what]);
        }
        for (int which = -1; which < 7; which++) {
            due("status(" + which + ")", x.status(which), 0);
        }
        due("undo()", x.undo(), NONE);
        due("tear()", x.tear(), 0);
        due("wipe()", x.wipe(), 0);
        for (int s = 0; s < 4; s++) {
            due("load", x.load(s), MISSING);
        }
        for (int spot = 0; spot < 10; spot++) {
            due("as", x.as(spot, 0), MISSING);
        }
    }

    private static void kind() {
        HedgeHeaps x = new HedgeHeaps();
        due("kind(4, 6)", x.kind(4, 6), 0);
        due("kind(4, 1)", x.kind(4, 1), 6);
        due("kind(0, 3)", x.kind(0, 3), 0);
        int[][] wrong = {{-1, 0}, {5, 0}, {0, -1}, {0, 7}, {FAR_OFF, 0}, {FAR_BELOW, 0}, {0, FAR_OFF}};
        for (int[] w : wrong) {
            due("wrong kind", x.kind(w[0], w[1]), BEYOND);
        }
        due("kind(0, 0)", x.kind(0, 0), 3);
        due("kind(4, 0)", x.kind(4, 0), 1);
    }

    private static void of() {
        HedgeHeaps x = new HedgeHeaps();
        x.change(1, 3, HOME, 11);
        x.change(1, 3, HEAP, 12);
        x.change(1, 3, WORTH, 13);
        due("of(1, 3, 0)", x.of(1, 3, HOME), 11);
        due("of(1, 3, 1)", x.of(1, 3, HEAP), 12);
        due("of(1, 3, 2)", x.of(1, 3, WORTH), 13);
        due("of(0, 3, 0)", x.of(0, 3, HOME), 10);
        due("of(1, 2, 1)", x.of(1, 2, HEAP), 0);
        int[][] wrong = {{-1, 0, 0}, {2, 0, 0}, {0, -1, 0}, {0, 5, 0}, {0, 0, -1}, {0, 0, 3}, {FAR_OFF, 0, 0}};
        for (int[] w : wrong) {
            due("wrong of", x.of(w[0], w[1], w[2]), BEYOND);
        }
    }

    private static void change() {
        HedgeHeaps x = new HedgeHeaps();
        due("home 99", x.change(0, 4, HOME, 99), 10);
        due("home 0", x.change(0, 4, HOME, 0), 99);
        due("heap 99", x.change(0, 4, HEAP, 99), 0);
        due("heap 0", x.change(0, 4, HEAP, 0), 99);
        due("worth 20", x.change(0, 4, WORTH, 20), 5);
        due("worth 0", x.change(0, 4, WORTH, 0), 20);
        int[][] wrong = {{-1, 0, 0, 0}, {2, 0, 0, 0}, {0, -1, 0, 0}, {0, 5, 0, 0}, {0, 0, -1, 0}, {0, 0, 3, 0},
            {0, 0, HOME, -1}, {0, 0, HOME, 100}, {0, 0, HEAP, -1}, {0, 0, HEAP, 100}, {0, 0, WORTH, -1},
            {0, 0, WORTH, 21}};
        for (int[] w : wrong) {
            due("wrong change", x.change(w[0], w[1], w[2], w[3]), BEYOND);
        }
        due("home as it was", x.of(0, 0, HOME), 10);
        due("worth as it was", x.of(0, 0, WORTH), 5);
    }

    private static void side() {
        HedgeHeaps x = new HedgeHeaps();
        due("greed 50", x.side(1, 0, 50), 2);
        due("greed 0", x.side(1, 0, 0), 50);
        due("trust 9", x.side(1, 1, 9), 5);
        due("trust 0", x.side(1, 1, 0), 9);
        due("other's greed", x.side(0, 0, 2), 2);
        due("other's trust", x.side(0, 1, 5), 5);
        int[][] wrong = {{-1, 0, 0}, {2, 0, 0}, {0, -1, 0}, {0, 2, 0}, {0, 0, -1}, {0, 0, 51}, {0, 1, -1}, {0, 1, 10}};
        for (int[] w : wrong) {
            due("wrong side", x.side(w[0], w[1], w[2]), BEYOND);
        }
    }

    private static void frost() {
        HedgeHeaps x = new HedgeHeaps();
        due("frost(9)", x.frost(9), 0);
        due("frost(-1)", x.frost(-1), BEYOND);
        due("frost(10)", x.frost(10), BEYOND);
        due("frost(0)", x.frost(0), 9);
    }

    private static void price() {
        HedgeHeaps x = new HedgeHeaps();
        x.frost(4);
        x.change(1, 2, WORTH, 7);
        // n of 0, 1, 2, 5 and 99, of each KIND, worth 7, FROST 4.
        int[][] dear = {{0, 7, 14, 35, 693}, {0, 7, 14, 35, 693}, {0, 11, 22, 55, 1089}, {0, 7, 14, 35, 693},
            {0, 15, 30, 75, 1485}, {0, 7, 10, 19, 301}, {0, 10, 13, 22, 304}};
        int[] n = {0, 1, 2, 5, 99};
        for (int kind = 0; kind < 7; kind++) {
            x.kind(2, kind);
            for (int i = 0; i < n.length; i++) {
                due("price of kind " + kind, x.price(1, 2, n[i]), dear[kind][i]);
            }
        }
        x.change(1, 2, WORTH, 0);
        due("a doll of no worth", x.price(1, 2, 3), 3);
        due("for the other side", x.price(0, 2, 1), 8);
        int[][] wrong = {{-1, 0, 0}, {2, 0, 0}, {0, -1, 0}, {0, 5, 0}, {0, 0, -1}, {0, 0, 100}};
        for (int[] w : wrong) {
            due("wrong price", x.price(w[0], w[1], w[2]), BEYOND);
        }
    }

    private static void value() {
        HedgeHeaps x = new HedgeHeaps();
        x.kind(0, 4);
        x.kind(1, 6);
        x.frost(3);
        x.change(1, 0, HEAP, 2);
        x.change(1, 1, HEAP, 3);
        x.change(1, 4, HEAP, 1);
        x.change(0, 2, HEAP, 1);
        x.change(1, 2, WORTH, 9);
        x.change(1, 4, WORTH, 20);
        due("value(0, 1)", x.value(0, 1), 22 + 12 + 5);
        due("value(1, 1)", x.value(1, 1), 22 + 12 + 20);
        due("value(0, 0)", x.value(0, 0), 5);
        due("value(1, 0)", x.value(1, 0), 9);
        int[][] wrong = {{-1, 0}, {2, 0}, {0, -1}, {0, 2}};
        for (int[] w : wrong) {
            due("wrong value", x.value(w[0], w[1]), BEYOND);
        }
    }

    private static void eaten() {
        HedgeHeaps x = new HedgeHeaps();
        int[] n = {0, 1, 2, 99};
        int[][] gone = {{0, 0, 0, 0}, {0, 1, 1, 1}, {0, 0, 0, 0}, {0, 1, 2, 2}, {0, 0, 0, 0}, {0, 0, 0, 0}, {0, 0, 0, 0}};
        for (int frost = 0; frost < 10; frost++) {
            x.frost(frost);
            for (int kind = 0; kind < 7; kind++) {
                x.kind(3, kind);
                for (int i = 0; i < n.length; i++) {
                    int want = kind == 3 && frost > 4 ? 0 : gone[kind][i];
                    due("eaten of kind " + kind + " in frost " + frost, x.eaten(3, n[i]), want);
                }
            }
        }
        int[][] wrong = {{-1, 0}, {5, 0}, {0, -1}, {0, 100}};
        for (int[] w : wrong) {
            due("wrong eaten", x.eaten(w[0], w[1]), BEYOND);
        }
    }

    private static void lay() {
        HedgeHeaps x = new HedgeHeaps();
        due("lay 4", x.lay(1, 2, 4), 4);
        due("lay 6 more", x.lay(1, 2, 6), 10);
        due("none at home", x.lay(1, 2, 1), STATE);
        due("home", x.of(1, 2, HOME), 0);
        due("heap", x.of(1, 2, HEAP), 10);
        due("other side's heap", x.of(0, 2, HEAP), 0);
        x.change(1, 2, HOME, 99);
        due("too many there", x.lay(1, 2, 90), STATE);
        due("as many as can be", x.lay(1, 2, 89), 99);
        due("99 at once", x.change(0, 0, HOME, 99) + x.lay(0, 0, 99), 10 + 99);
        x.side(0, 1, 0);
        due("no trust", x.lay(0, 1, 1), STATE);
        x.side(0, 1, 1);
        due("little trust", x.lay(0, 1, 1), 1);
        int[][] wrong = {{-1, 0, 1}, {2, 0, 1}, {0, -1, 1}, {0, 5, 1}, {0, 0, 0}, {0, 0, 100}, {0, 0, FAR_BELOW}};
        for (int[] w : wrong) {
            due("wrong lay", x.lay(w[0], w[1], w[2]), BEYOND);
        }
    }

    private static void back() {
        HedgeHeaps x = new HedgeHeaps();
        x.change(0, 1, HEAP, 9);
        x.side(0, 1, 0);
        due("back 4", x.back(0, 1, 4), 5);
        due("home", x.of(0, 1, HOME), 14);
        due("too many", x.back(0, 1, 6), STATE);
        due("all", x.back(0, 1, 5), 0);
        due("none is left", x.back(0, 1, 1), STATE);
        x.change(0, 1, HOME, 95);
        x.change(0, 1, HEAP, 5);
        due("home too full", x.back(0, 1, 5), STATE);
        due("home full", x.back(0, 1, 4), 1);
        int[][] wrong = {{-1, 0, 1}, {2, 0, 1}, {0, -1, 1}, {0, 5, 1}, {0, 0, 0}, {0, 0, 100}};
        for (int[] w : wrong) {
            due("wrong back", x.back(w[0], w[1], w[2]), BEYOND);
        }
    }

    private static void content() {
        HedgeHeaps x = new HedgeHeaps();
        x.side(0, 0, 0);
        due("nothing lies there", x.content(0), 0);
        x.change(1, 0, HEAP, 2);
        x.change(0, 1, HEAP, 2);
        due("as much, no greed", x.content(0), 1);
        x.side(0, 0, 1);
        due("as much, greed 1", x.content(0), 0);
        x.change(0, 1, WORTH, 4);
        due("2 more, greed 1", x.content(0), 1);
        x.side(0, 0, 2);
        due("2 more, greed 2", x.content(0), 1);
        x.side(0, 0, 3);
        due("2 more, greed 3", x.content(0), 0);
        due("the other, by its own worths", x.content(1), 0);
        x.side(0, 0, 0);
        x.change(1, 0, HEAP, 0);
        x.change(0, 1, HEAP, 0);
        due("both empty", x.content(0), 0);
        due("content(-1)", x.content(-1), BEYOND);
        due("content(2)", x.content(2), BEYOND);
    }

    private static void does() {
        HedgeHeaps x = new HedgeHeaps();
        due("nothing", x.does(0), 0);
        x.change(1, 0, HEAP, 1);
        due("takes", x.does(0), 1);
        due("less", x.does(1), 2);
        x.side(0, 1, 0);
        due("without trust and heap", x.does(0), 0);
        x.change(0, 0, HEAP, 1);
        x.change(1, 0, HEAP, 99);
        due("without trust", x.does(0), 3);
        x.side(0, 1, 1);
        due("with trust", x.does(0), 1);
        x.side(0, 0, 50);
        x.change(1, 0, HEAP, 5);
        due("greedy", x.does(0), 2);
        x.change(0, 0, HEAP, 0);
        due("greedy, heap empty", x.does(0), 0);
        due("does(-1)", x.does(-1), BEYOND);
        due("does(2)", x.does(2), BEYOND);
    }

    private static void less() {
        HedgeHeaps x = new HedgeHeaps();
        due("does nothing", x.less(0), NONE);
        x.change(0, 2, HEAP, 3);
        x.change(0, 3, HEAP, 3);
        due("the least of several", x.less(0), 2);
        x.change(0, 3, WORTH, 6);
        due("dearer", x.less(0), 3);
        x.change(0, 3, WORTH, 9);
        x.kind(3, 5);
        due("a tool more is half", x.less(0), 2);
        x.change(0, 3, HEAP, 1);
        due("the first tool", x.less(0), 3);
        x.change(0, 3, HEAP, 0);
        x.kind(4, 4);
        x.frost(1);
        x.change(0, 4, HEAP, 1);
        due("frost makes fur dear", x.less(0), 4);
        x.kind(4, 0);
        x.change(0, 2, WORTH, 0);
        x.change(0, 4, HEAP, 0);
        due("worth nothing", x.less(0), 2);
        x.side(0, 1, 0);
        due("without trust", x.less(0), NONE);
        x.side(0, 1, 1);
        x.change(1, 0, HEAP, 50);
        due("content", x.less(0), NONE);
        HedgeHeaps y = new HedgeHeaps();
        y.change(1, 0, HEAP, 1);
        y.change(1, 0, WORTH, 9);
        y.change(1, 3, HEAP, 50);
        y.side(1, 0, 50);
        due("thing 0 is dearest", y.less(1), 0);
        due("less(-1)", x.less(-1), BEYOND);
        due("less(2)", x.less(2), BEYOND);
    }

    private static void steal() {
        HedgeHeaps x = new HedgeHeaps();
        due("nothing there", x.steal(1), STATE);
        x.change(0, 0, HEAP, 3);
        x.change(0, 1, HEAP, 95);
        x.change(1, 0, WORTH, 7);
        x.change(1, 2, HEAP, 1);
        due("own heap doesn't count", x.steal(0), 5);
        x.change(1, 2, HEAP, 1);
        x.side(1, 1, 5);
        due("steal(1)", x.steal(1), 21 + 475);
        due("home", x.of(1, 0, HOME), 13);
        due("home is full", x.of(1, 1, HOME), 99);
        due("gone", x.of(0, 0, HEAP) + x.of(0, 1, HEAP), 0);
        due("own heap stays", x.of(1, 2, HEAP), 1);
        due("the other's trust", x.side(0, 1, 5), 0);
        due("own trust", x.side(1, 1, 5), 5);
        due("again", x.steal(1), STATE);
        due("steal(-1)", x.steal(-1), BEYOND);
        due("steal(2)", x.steal(2), BEYOND);
    }

    private static void gift() {
        HedgeHeaps x = new HedgeHeaps();
        due("gift", x.gift(0, 1, 4), 6);
        due("giver", x.of(0, 1, HOME), 6);
        due("taker", x.of(1, 1, HOME), 14);
        due("giver's trust", x.side(0, 1, 0), 5);
        x.change(1, 1, HOME, 97);
        x.side(1, 1, 9);
        due("trust is full", x.gift(0, 1, 6), 9);
        due("home is full", x.of(1, 1, HOME), 99);
        due("nothing left", x.gift(0, 1, 1), STATE);
        due("the mistrusted one's trust", x.gift(1, 0, 10), 1);
        int[][] wrong = {{-1, 0, 1}, {2, 0, 1}, {0, -1, 1}, {0, 5, 1}, {0, 0, 0}, {0, 0, 100}};
        for (int[] w : wrong) {
            due("wrong gift", x.gift(w[0], w[1], w[2]), BEYOND);
        }
    }

    private static void nights() {
        HedgeHeaps x = new HedgeHeaps();
        x.change(0, 0, HEAP, 3);
        x.change(1, 1, HEAP, 3);
        x.side(0, 1, 9);
        // Night 0: 15 for 15 isn't 2 more, side 0 takes one away; night 1: side 1 gets 10 for 15; nor it.
        due("nights(2)", x.nights(2), 0);
        due("side 0 has less", x.of(0, 0, HEAP), 2);
        due("side 1 has less", x.of(1, 1, HEAP), 2);
        x.change(1, 1, HOME, 98);
        x.change(1, 0, HOME, 98);
        x.change(0, 1, WORTH, 6);
        due("side 0 takes", x.nights(1), 1);
        due("side 0's home", x.of(0, 1, HOME), 12);
        due("side 1's home is full", x.of(1, 0, HOME), 99);
        due("no heaps", x.now(1) + x.now(2), 0);
        due("trust is full", x.side(0, 1, 0), 9);
        due("trust is more", x.side(1, 1, 5), 6);
        due("struck", x.now(6), 1);
        x.change(1, 1, HOME, 99);
        x.change(1, 1, HEAP, 2);
        due("less, home full", x.nights(1), 0);
        due("one is gone", x.of(1, 1, HEAP), 1);
        due("home", x.of(1, 1, HOME), 99);
        x.change(0, 4, HEAP, 95);
        due("without trust all goes home", x.nights(1), 0);
        due("heap", x.of(0, 4, HEAP), 0);
        due("home", x.of(0, 4, HOME), 99);
        due("NIGHT", x.now(0), 5);
        due("nights(0)", x.nights(0), BEYOND);
        due("nights(-1)", x.nights(-1), BEYOND);
        due("nights(61)", x.nights(61), BEYOND);
        due("nights(MAX)", x.nights(FAR_OFF), BEYOND);
    }

    private static void birds() {
        HedgeHeaps x = new HedgeHeaps();
        x.kind(0, 1);
        x.kind(1, 3);
        x.change(1, 0, HEAP, 1);
        x.change(1, 1, HEAP, 3);
        x.change(1, 2, HEAP, 1);
        x.side(0, 0, 50);
        x.side(1, 1, 9);
        due("side 0 does nothing", x.nights(1), 0);
        due("food", x.of(1, 0, HEAP), 0);
        due("meat", x.of(1, 1, HEAP), 1);
        due("a thing", x.of(1, 2, HEAP), 1);
        due("not at home", x.of(1, 0, HOME) + x.of(1, 1, HOME), 20);
        due("eaten ever", x.count(4), 3);
        x.frost(5);
        x.change(1, 2, HEAP, 0);
        x.change(0, 0, HEAP, 1);
        x.side(1, 0, 50);
        due("side 1 takes its meat home", x.nights(1), 0);
        due("side 0's food", x.of(0, 0, HEAP), 0);
        due("eaten ever", x.count(4), 4);
        due("side 1's meat", x.of(1, 1, HOME), 11);
        x.change(1, 1, HEAP, 4);
        due("frozen meat", x.nights(1), 0);
        due("stays", x.of(1, 1, HEAP), 4);
    }

    private static HedgeHeaps atNight(int night) {
        HedgeHeaps x = new HedgeHeaps();
        int left = night;
        while (left > 0) {
            int n = Math.min(60, left);
            x.nights(n);
            left -= n;
        }
        Check.due("atNight", x.now(0), night);
        return x;
    }

    private static void edgeOfTime() {
        HedgeHeaps x = atNight(9939);
        due("struck() at 9939", x.struck(), NONE);
        due("empty() at 9939", x.empty(), 0);
        due("ahead(60) at 9939", x.ahead(60, 0), 0);
        due("temptation(60) at 9939", x.temptation(0, 60), 0);
        x.nights(1);
        due("struck() at 9940", x.struck(), STATE);
        due("empty() at 9940", x.empty(), STATE);
        due("ahead(60) at 9940", x.ahead(60, 0), STATE);
        due("temptation(60) at 9940", x.temptation(0, 60), STATE);
        due("nights(60) at 9940", x.nights(60), STATE);
        due("nights(59) at 9940", x.nights(59), 0);
        x.sheet(0, 8, 1);
        x.sheet(1, 8, 0);
        due("nights(1) at 9999", x.nights(1), STATE);
        due("ahead(0) at 9999", x.ahead(0, 0), 0);
        due("ahead(1) at 9999", x.ahead(1, 0), STATE);
        due("best at 9999", x.best(0, 1), STATE);
        due("gain at 9999", x.gain(0, 1), STATE);
        due("greed at 9999", x.greed(0, 1), STATE);
        due("kindFor at 9999", x.kindFor(0, 1), STATE);
        due("temptation at 9999", x.temptation(0, 1), STATE);
        due("season at 9999", x.season(1), STATE);
        due("judge of one at 9999", x.judge(0), STATE);
        due("judge of none at 9999", x.judge(1), 0);
        due("wrong nights at 9999", x.nights(61), BEYOND);
        due("season draws nothing", x.count(6), 1);
        HedgeHeaps y = atNight(9975);
        due("season(12) to 9999", y.season(12) >= 0 ? 1 : 0, 1);
        due("NIGHT", y.now(0), 9999);
        due("season(1) to 10001", y.season(1), STATE);
        y = atNight(9976);
        due("season(12) to 10000", y.season(12), STATE);
        HedgeHeaps z = atNight(9969);
        due("greed(30) to 9999", z.greed(0, 30), 0);
        due("best(30) to 9999", z.best(0, 30), 0);
        due("kindFor(30) to 9999", z.kindFor(0, 30), 0);
        z.nights(1);
        due("greed(30) to 10000", z.greed(0, 30), STATE);
        due("best(30) to 10000", z.best(0, 30), STATE);
        due("gain(30) to 10000", z.gain(0, 30), STATE);
        due("kindFor(30) to 10000", z.kindFor(0, 30), STATE);
    }

    private static void now() {
        HedgeHeaps x = new HedgeHeaps();
        x.lay(0, 0, 3);
        x.lay(0, 4, 2);
        x.lay(1, 1, 9);
        x.frost(7);
        due("things in heap 0", x.now(1), 5);
        due("things in heap 1", x.now(2), 9);
        due("things at home", x.now(3), 86);
        due("frost", x.now(5), 7);
        due("side 0 takes", x.nights(1), 1);
        due("night", x.now(0), 1);
        due("in books", x.now(4), 1);
        due("struck", x.now(6), 1);
        due("things at home", x.now(3), 100);
        x.nights(11);
        due("in books", x.now(4), 12);
        x.nights(1);
        due("in books, no more", x.now(4), 12);
        due("night", x.now(0), 13);
        due("now(-1)", x.now(-1), BEYOND);
        due("now(7)", x.now(7), BEYOND);
    }

    private static void ahead() {
        HedgeHeaps x = new HedgeHeaps();
        x.kind(0, 3);
        x.kind(2, 6);
        x.change(0, 0, HEAP, 5);
        x.change(1, 2, HEAP, 2);
        x.change(1, 0, WORTH, 8);
        // Side 0: its meat is 25 to it, the two dolls 10: it takes one away; birds eat 2.
        due("ahead(0, 1)", x.ahead(0, 1), 7);
        due("ahead(1, 0)", x.ahead(1, 0), 0);
        due("ahead(1, 1)", x.ahead(1, 1), 4);
        due("ahead(1, 2)", x.ahead(1, 2), 2);
        due("ahead(1, 3)", x.ahead(1, 3), -10);
        due("ahead(1, 4)", x.ahead(1, 4), 0);
        // Side 1: two of meat are worth 16 to it, the dolls 10, and it wants 2: it takes.
        due("ahead(2, 0)", x.ahead(2, 0), 1);
        due("ahead(2, 1)", x.ahead(2, 1), 0);
        due("ahead(2, 2)", x.ahead(2, 2), 2);
        due("ahead(2, 3)", x.ahead(2, 3), 2 * 2 - 5 * 5 + 5);
        due("ahead(2, 4)", x.ahead(2, 4), 2 * 8 - 2 * 2);
        due("ahead(60, 4)", x.ahead(60, 4), 2 * 8 - 2 * 2);
        HedgeHeaps y = new HedgeHeaps();
        y.kind(0, 1);
        y.lay(1, 0, 3);
        y.side(0, 0, 50);
        y.nights(1);
        y.change(1, 0, HEAP, 3);
        due("what was eaten before doesn't count", y.count(4) * 10 + y.ahead(1, 2), 11);
        due("nothing changes: NIGHT", x.now(0), 0);
        due("nothing changes: BOOKS", x.now(4), 0);
        due("nothing changes: HEAPS", x.now(1) + x.now(2), 7);
        due("nothing changes: TRUST", x.count(3), 10);
        due("nothing changes: eaten", x.count(4), 0);
        due("nothing changes: struck", x.count(1), 0);
        int[][] wrong = {{-1, 0}, {61, 0}, {0, -1}, {0, 5}, {FAR_OFF, 0}};
        for (int[] w : wrong) {
            due("wrong ahead", x.ahead(w[0], w[1]), BEYOND);
        }
    }

    private static void struck() {
        HedgeHeaps x = new HedgeHeaps();
        due("never", x.struck(), NONE);
        x.lay(1, 0, 1);
        due("side 0 takes at once", x.struck(), 1);
        due("nothing changes", x.now(0), 0);
        x.nights(1);
        x.lay(0, 0, 1);
        due("side 1 takes at once", x.struck(), 1);
        HedgeHeaps y = new HedgeHeaps();
        y.side(1, 0, 50);
        y.lay(0, 0, 9);
        // Side 1 would take 50 and more for nothing, and there are 45 at most.
        due("too greedy", y.struck(), NONE);
        HedgeHeaps z = new HedgeHeaps();
        z.change(0, 0, HEAP, 40);
        z.change(1, 1, HEAP, 30);
        z.change(1, 1, WORTH, 6);
        z.side(1, 0, 44);
        // Each takes one away in turn. Behind k nights of its own side 1 sees 39 - k of worth 5 for
        // 30 - k of worth 6: it is 15 + k more, enough for greed 44 in its 30th night, with k 29.
        due("struck in the 60th night", z.struck(), 60);
        z.side(1, 0, 43);
        due("one greed less", z.struck(), 58);
        z.side(1, 0, 45);
        due("too late", z.struck(), NONE);
        due("nothing changes", z.now(0) + z.now(4), 0);
    }

    private static void empty() {
        HedgeHeaps x = new HedgeHeaps();
        due("at once", x.empty(), 0);
        x.side(0, 0, 50);
        x.lay(1, 0, 1);
        due("only side 1's", x.empty(), 2);
        x.back(1, 0, 1);
        x.side(0, 0, 2);
        x.lay(0, 0, 1);
        due("side 0 takes it home", x.empty(), 1);
        x.lay(0, 0, 2);
        due("side 1 takes them", x.empty(), 2);
        x.side(1, 0, 50);
        due("side 0 takes them home", x.empty(), 5);
        x.change(0, 0, HEAP, 30);
        x.change(0, 0, WORTH, 0);
        x.change(1, 0, WORTH, 0);
        due("in the 59th night", x.empty(), 59);
        x.change(0, 0, HEAP, 31);
        due("after 60 nights", x.empty(), NONE);
        x.nights(1);
        due("in the 60th night, side 1 first", x.empty(), 60);
        due("nothing changes", x.now(0), 1);
    }

    private static void best() {
        HedgeHeaps x = new HedgeHeaps();
        x.change(1, 0, HEAP, 4);
        x.change(0, 0, HEAP, 7);
        // With nothing laid, side 0 takes 4 for nothing: 20 more.
        due("nothing is best", x.best(0, 1), 0);
        due("gain", x.gain(0, 1), 20);
        x.change(0, 0, HEAP, 0);
        x.change(1, 0, HEAP, 0);
        x.change(1, 3, HEAP, 4);
        x.change(0, 3, WORTH, 9);
        x.side(0, 0, 30);
        x.side(1, 0, 0);
        x.nights(1);
        x.change(1, 3, HEAP, 2);
        x.change(1, 3, WORTH, 2);
        x.change(0, 0, WORTH, 6);
        // Side 1's turn: it wants 4 for its two, side 0 wants 30. One of any is 5 to side 1; of 0 6 to side 0.
        due("one of thing 1", x.best(0, 1), 4);
        due("gain", x.gain(0, 1), 13);
        x.change(0, 1, HOME, 0);
        due("one of thing 2", x.best(0, 1), 16);
        x.change(0, 2, HOME, 0);
        due("one of thing 0", x.best(0, 1), 1);
        due("gain", x.gain(0, 1), 12);
        x.change(1, 0, WORTH, 1);
        due("three of thing 0 are too few", x.best(0, 1), 0);
        due("gain of nothing", x.gain(0, 1), 0);
        x.change(1, 3, HEAP, 1);
        due("two of thing 0 for one", x.best(0, 1), 0);
        x.change(0, 0, WORTH, 3);
        due("two of thing 0 for one that is worth 9", x.best(0, 1), 2);
        due("gain", x.gain(0, 1), 3);
        x.change(0, 0, HOME, 1);
        due("only one is there", x.best(0, 1), 0);
        x.change(0, 0, HEAP, 1);
        due("one at home, one in the heap", x.best(0, 1), 2);
        due("nothing changes", x.of(0, 0, HEAP), 1);
        x.side(0, 1, 0);
        due("no trust", x.best(0, 1), STATE);
        x.side(0, 1, 1);
        HedgeHeaps y = new HedgeHeaps();
        y.nights(1);
        y.change(1, 3, HEAP, 2);
        y.change(1, 3, WORTH, 20);
        y.side(1, 0, 5);
        for (int t = 0; t < 3; t++) {
            y.change(0, t, WORTH, 0);
        }
        // Side 1 wants 45 for its two: nine of worth 5, of no worth to side 0.
        due("all nine", y.best(0, 1), 63);
        due("gain", y.gain(0, 1), 10);
        y.side(1, 0, 6);
        due("nine are too few", y.best(0, 1), 0);
        due("best(-1, 1)", x.best(-1, 1), BEYOND);
        due("best(2, 1)", x.best(2, 1), BEYOND);
        due("best(0, 0)", x.best(0, 0), BEYOND);
        due("best(0, 31)", x.best(0, 31), BEYOND);
    }

    private static void gain() {
        HedgeHeaps x = new HedgeHeaps();
        due("nothing to gain", x.gain(0, 30), 0);
        x.change(0, 4, HEAP, 20);
        x.change(0, 4, HOME, 90);
        due("what is more than 99 is gone", x.gain(0, 1), -55);
        x.side(0, 1, 0);
        due("no trust", x.gain(0, 1), STATE);
        due("the other one has", x.gain(1, 1), 0);
        due("gain(-1, 1)", x.gain(-1, 1), BEYOND);
        due("gain(2, 1)", x.gain(2, 1), BEYOND);
        due("gain(0, 0)", x.gain(0, 0), BEYOND);
        due("gain(0, 31)", x.gain(0, 31), BEYOND);
    }

    private static void greed() {
        HedgeHeaps x = new HedgeHeaps();
        x.change(0, 0, HEAP, 6);
        x.change(1, 1, HEAP, 6);
        x.change(0, 0, WORTH, 6);
        x.change(1, 0, WORTH, 0);
        x.change(1, 1, WORTH, 0);
        x.side(1, 0, 50);
        due("longer", x.greed(0, 30), bestGreedByHand(x, 0, 30));
        due("side 1", x.greed(1, 30), bestGreedByHand(x, 1, 30));
        due("what is set stays", x.side(1, 0, 50), 50);
        due("greed(-1, 1)", x.greed(-1, 1), BEYOND);
        due("greed(2, 1)", x.greed(2, 1), BEYOND);
        due("greed(0, 0)", x.greed(0, 0), BEYOND);
        due("greed(0, 31)", x.greed(0, 31), BEYOND);
        HedgeHeaps y = new HedgeHeaps();
        y.change(0, 0, HEAP, 2);
        y.change(1, 1, HEAP, 5);
        y.change(0, 0, WORTH, 10);
        y.change(0, 1, WORTH, 4);
        y.side(1, 1, 0);
        y.side(1, 0, 50);
        // 20 for 20: it takes at greed 0 and has no more; else side 1 takes its heap home. Equal: the least.
        due("equal", y.greed(0, 3), 0);
        y.side(1, 1, 5);
        y.change(1, 1, WORTH, 0);
        // Greed 1 to 6: one away, then side 1 one away (4 left, 16 for 10): taken in night 2, 6 more.
        due("waiting is better", y.greed(0, 3), 1);
        due("not in two nights", y.greed(0, 2), 0);
        HedgeHeaps z = new HedgeHeaps();
        z.change(0, 0, HEAP, 14);
        z.change(0, 0, WORTH, 6);
        z.change(1, 1, HEAP, 24);
        z.change(1, 0, WORTH, 0);
        z.side(1, 0, 50);
        // In its k-th night (from 0) side 0 sees 24 - k of worth 5 for 14 - k of worth 6: 36 + k more.
        due("50 in night 28", z.greed(0, 29), 50);
        due("49 in night 26", z.greed(0, 28), 49);
        due("36 at once", z.greed(0, 2), 0);
        due("37 in night 2", z.greed(0, 3), 37);
    }

    /** The same by setting each GREED and looking AHEAD. */
    private static int bestGreedByHand(HedgeHeaps x, int side, int n) {
        int was = x.side(side, 0, 0);
        int best = 0;
        int most = FAR_BELOW;
        for (int g = 0; g <= 50; g++) {
            x.side(side, 0, g);
            int more = x.ahead(n, 3 + side);
            if (more > most) {
                most = more;
                best = g;
            }
        }
        x.side(side, 0, was);
        return best;
    }

    private static void kindFor() {
        HedgeHeaps x = new HedgeHeaps();
        x.lay(0, 0, 4);
        x.change(1, 0, WORTH, 7);
        // Side 0 takes one home, then side 1 takes three: 21 less 15. Cloth the same; tools 9 less 6;
        // of food the birds eat some.
        due("a thing", x.kindFor(0, 2), 0);
        x.change(1, 0, WORTH, 4);
        x.change(0, 0, WORTH, 7);
        // Now what goes over loses: a thing 21 less 12, a tool 9 less 6; a doll as a tool.
        due("a tool", x.kindFor(0, 2), 5);
        x.change(1, 0, HOME, 0);
        // Side 1 has none: its first tool is 4, its first doll 7, while side 0 loses 9.
        due("a doll", x.kindFor(0, 2), 6);
        due("one that doesn't move", x.kindFor(3, 2), 0);
        due("what it is stays", x.kind(0, 0), 0);
        due("kindFor(-1, 1)", x.kindFor(-1, 1), BEYOND);
        due("kindFor(5, 1)", x.kindFor(5, 1), BEYOND);
        due("kindFor(0, 0)", x.kindFor(0, 0), BEYOND);
        due("kindFor(0, 31)", x.kindFor(0, 31), BEYOND);
    }

    private static void temptation() {
        HedgeHeaps x = new HedgeHeaps();
        due("nothing there", x.temptation(0, 60), 0);
        x.change(1, 0, HEAP, 3);
        x.change(0, 1, HEAP, 2);
        x.side(0, 0, 9);
        // Stolen: 15 more. Not: one away, side 1 one away (2:1), one away (2:0): takes 2 in night 4.
        due("temptation(0, 1)", x.temptation(0, 1), 15);
        due("temptation(0, 4)", x.temptation(0, 4), 15);
        due("temptation(0, 5)", x.temptation(0, 5), x.steal(0) - aheadOf(0, 5));
        HedgeHeaps y = new HedgeHeaps();
        y.change(1, 0, HEAP, 3);
        due("it would take them anyhow", y.temptation(0, 1), 0);
        due("temptation(1, 1)", y.temptation(1, 1), 15);
        y.change(0, 0, HOME, 98);
        due("home is full", y.temptation(1, 1), 15);
        y.change(0, 0, HOME, 98);
        y.side(0, 0, 50);
        due("home is full: one comes", y.temptation(0, 1), 5);
        due("no trust ends", y.count(3), 10);
        due("temptation(-1, 1)", y.temptation(-1, 1), BEYOND);
        due("temptation(2, 1)", y.temptation(2, 1), BEYOND);
        due("temptation(0, 0)", y.temptation(0, 0), BEYOND);
        due("temptation(0, 61)", y.temptation(0, 61), BEYOND);
    }

    private static int aheadOf(int side, int n) {
        HedgeHeaps x = new HedgeHeaps();
        x.change(1, 0, HEAP, 3);
        x.change(0, 1, HEAP, 2);
        x.side(0, 0, 9);
        return x.ahead(n, 3 + side);
    }

    private static void bundle() {
        HedgeHeaps x = new HedgeHeaps();
        due("all alike", x.bundle(), NONE);
        x.change(0, 1, WORTH, 6);
        due("only one gains", x.bundle(), NONE);
        x.change(1, 2, WORTH, 6);
        // Side 0 gives 2 for 1.
        due("both gain", x.bundle(), 21);
        x.change(1, 3, WORTH, 6);
        due("the first of several", x.bundle(), 21);
        x.change(0, 0, WORTH, 6);
        due("thing 0 from side 1", x.bundle(), 20);
        x.change(0, 0, WORTH, 5);
        x.change(1, 3, WORTH, 7);
        due("the greatest sum", x.bundle(), 31);
        x.change(0, 3, HOME, 0);
        due("side 0 has none", x.bundle(), 21);
        x.change(1, 1, HOME, 0);
        due("side 1 has none", x.bundle(), NONE);
        x.kind(4, 4);
        x.change(1, 4, WORTH, 0);
        due("fur without frost", x.bundle(), NONE);
        x.frost(1);
        // Fur is 7 to side 0, 2 to side 1; side 0 gains 2 with 0 or 2, side 1 4 with 2.
        due("fur in frost", x.bundle(), 24);
        x.frost(9);
        due("fur too dear to side 1, too", x.bundle(), NONE);
        x.frost(1);
        x.change(1, 4, HOME, 0);
        x.change(1, 4, HEAP, 9);
        due("what lies in the heap isn't at home", x.bundle(), NONE);
        x.change(1, 4, HOME, 1);
        due("one is enough", x.bundle(), 24);
    }

    private static void book() {
        HedgeHeaps x = new HedgeHeaps();
        due("none yet", x.book(0, 0), NONE);
        x.lay(0, 0, 2);
        x.lay(1, 3, 4);
        x.lay(1, 4, 1);
        x.nights(1);
        due("done", x.book(0, 0), 1);
        due("whose", x.book(0, 1), 0);
        due("thing 0 ahead of it", x.book(0, 2), 2);
        due("thing 3 ahead of it", x.book(0, 5), 0);
        due("no second", x.book(1, 0), NONE);
        x.lay(1, 4, 3);
        x.lay(1, 2, 5);
        x.nights(2);
        due("whose 1", x.book(1, 1), 1);
        due("done 1", x.book(1, 0), 2);
        due("thing 2", x.book(1, 4), 5);
        due("thing 4", x.book(1, 6), 3);
        due("whose 2", x.book(0, 1), 0);
        due("side 0 takes what is left", x.book(0, 0), 1);
        due("the first is third now", x.book(2, 2), 2);
        x.side(1, 1, 0);
        x.change(1, 1, HEAP, 7);
        x.nights(2);
        due("done 3", x.book(1, 0), 3);
        due("thing 1", x.book(1, 3), 7);
        due("done 0", x.book(0, 0), 0);
        x.nights(9);
        due("the 12th", x.book(11, 0), 1);
        due("it is the third night", x.book(11, 1), 0);
        due("no 13th", x.book(12, 0), NONE);
        due("no such at all", x.book(FAR_OFF, 6), NONE);
        due("book(-1, 0)", x.book(-1, 0), BEYOND);
        due("book(0, -1)", x.book(0, -1), BEYOND);
        due("book(0, 7)", x.book(0, 7), BEYOND);
        due("book(99, 7)", x.book(99, 7), BEYOND);
    }

    private static void fits() {
        HedgeHeaps x = new HedgeHeaps();
        int all = (1 << 21) - 1;
        due("nothing is known", x.fits(1, 4), all);
        x.lay(0, 0, 3);
        x.lay(1, 1, 4);
        x.change(0, 0, WORTH, 6);
        // Side 0 gives 3 of worth 6 for 4 of worth 5, greed 2: it takes.
        x.nights(1);
        due("worth of what it gave: 0 to 6", x.fits(0, 0), (1 << 7) - 1);
        due("worth of what it got: 5 on", x.fits(0, 1), all & ~31);
        due("of what wasn't there", x.fits(0, 2), all);
        due("of the other side", x.fits(1, 0), all);
        x.side(0, 0, 0);
        due("less greed: of what it got", x.fits(0, 1), all & ~31);
        x.side(0, 0, 3);
        due("more greed: of what it got", x.fits(0, 1), all & ~63);
        x.frost(4);
        due("frost as it was", x.fits(0, 1), all & ~63);
        x.kind(1, 6);
        // 4 dolls: w + 3 * (w / 2) + 3 is 21 or more from w 8 on.
        due("kinds as they are now", x.fits(0, 1), all & ~255);
        x.kind(1, 0);
        x.change(0, 0, WORTH, 20);
        due("none fits", x.fits(0, 1), 1 << 20 | 1 << 19 | 1 << 18 | 1 << 17 | 1 << 16);
        x.side(0, 0, 50);
        due("none fits at all", x.fits(0, 1), 0);
        HedgeHeaps f = new HedgeHeaps();
        f.kind(1, 2);
        f.frost(3);
        f.side(0, 1, 1);
        f.lay(1, 1, 2);
        f.lay(0, 0, 2);
        // Cloth of worth 5 is 8 in frost 3: 16 for 10, more by 2; it would do with worth 3.
        due("cloth in frost, little trust", f.nights(1), 1);
        f.frost(0);
        due("frost as it was then", f.fits(0, 1), all & ~7);
        f.kind(1, 0);
        due("a thing needs 6", f.fits(0, 1), all & ~63);
        due("what it gave then", f.fits(0, 0), 31);
        HedgeHeaps y = new HedgeHeaps();
        y.side(0, 1, 0);
        y.lay(1, 1, 4);
        y.nights(1);
        y.side(0, 1, 9);
        due("without trust any fits", y.fits(0, 1), all);
        y.change(1, 1, HEAP, 2);
        y.nights(2);
        due("with trust", y.fits(0, 1), all & ~3);
        y.side(0, 1, 0);
        due("with trust then, not now", y.fits(0, 1), all & ~3);
        due("fits(-1, 0)", y.fits(-1, 0), BEYOND);
        due("fits(2, 0)", y.fits(2, 0), BEYOND);
        due("fits(0, -1)", y.fits(0, -1), BEYOND);
        due("fits(0, 5)", y.fits(0, 5), BEYOND);
    }

    private static void greeds() {
        HedgeHeaps x = new HedgeHeaps();
        due("nothing is known", x.greeds(0), FAR_OFF);
        x.lay(0, 0, 3);
        x.lay(1, 1, 4);
        x.nights(1);
        due("0 to 5", x.greeds(0), 63);
        due("of the other side", x.greeds(1), FAR_OFF);
        x.nights(1);
        x.lay(0, 0, 3);
        x.lay(1, 1, 4);
        x.side(0, 0, 7);
        due("the same isn't enough now", x.nights(1), 0);
        due("none fits both", x.greeds(0), 0);
        x.side(0, 0, 0);
        due("of the greed it has nothing is taken", x.greeds(0), 0);
        due("greeds(-1)", x.greeds(-1), BEYOND);
        due("greeds(2)", x.greeds(2), BEYOND);
        HedgeHeaps y = new HedgeHeaps();
        y.lay(1, 0, 6);
        y.nights(1);
        due("30, too", y.greeds(0), FAR_OFF);
        y.change(0, 0, WORTH, 4);
        due("24 is the most", y.greeds(0), (1 << 25) - 1);
    }

    private static void known() {
        HedgeHeaps x = new HedgeHeaps();
        due("nothing is known", x.known(0), 0);
        x.lay(0, 2, 3);
        x.lay(1, 3, 4);
        x.nights(1);
        // Thing 2 fits with 0 to 6, thing 3 with 5 to 20.
        due("fewest", x.known(0), 2);
        due("of side 1 nothing", x.known(1), 0);
        x.change(0, 3, WORTH, 20);
        due("thing 3 fits with 5 and more, 2 with any", x.known(0), 3);
        due("known(-1)", x.known(-1), BEYOND);
        due("known(2)", x.known(2), BEYOND);
    }

    private static int drawn(int z) {
        return z * 1103515245 + 12345;
    }

    private static void season() {
        for (int start = 0; start < 40; start++) {
            HedgeHeaps x = new HedgeHeaps();
            HedgeHeaps y = new HedgeHeaps();
            x.seed(start);
            x.change(0, 0, HEAP, 99);
            y.change(0, 0, HEAP, 99);
            x.change(1, 1, HOME, 0);
            y.change(1, 1, HOME, 0);
            int n = 1 + start % 12;
            int z = start;
            int takes = 0;
            for (int i = 0; i < n; i++) {
                z = drawn(z);
                y.frost((z >>> 8) % 10);
                z = drawn(z);
                int side = (z >>> 8) % 2;
                z = drawn(z);
                y.lay(side, (z >>> 8) % 5, 1);
                takes += y.nights(2);
            }
            due("season(" + n + ")", x.season(n), takes);
            due("z", x.count(6), z);
            for (int what = 0; what < 7; what++) {
                due("now(" + what + ") behind a season", x.now(what), y.now(what));
            }
            for (int t = 0; t < 5; t++) {
                due("heap", x.of(1, t, HEAP), y.of(1, t, HEAP));
                due("home", x.of(0, t, HOME), y.of(0, t, HOME));
            }
            due("no finding", x.status(-1), 0);
        }
        HedgeHeaps x = new HedgeHeaps();
        due("season(0)", x.season(0), BEYOND);
        due("season(-1)", x.season(-1), BEYOND);
        due("season(13)", x.season(13), BEYOND);
        due("season(MAX)", x.season(FAR_OFF), BEYOND);
        due("nothing is drawn", x.count(6), 1);
    }

    private static void seed() {
        HedgeHeaps x = new HedgeHeaps();
        due("seed(-1000001)", x.seed(-1000001), 1);
        due("count(6)", x.count(6), -1000001);
        due("seed(MIN)", x.seed(FAR_BELOW), -1000001);
        due("seed(7)", x.seed(7), FAR_BELOW);
        due("that is no finding", x.status(-1), 0);
    }

    private static void feed() {
        HedgeHeaps x = new HedgeHeaps();
        due("the highest first", x.feed(0x66757220, 4), 4);
        due("the lowest ones", x.feed(0x66667832, 1), 5);
        due("text", x.text(), 1);
        due("kind of 2", x.kind(2, 0), 4);
        due("3 of 4", x.feed(0x78667572, 3), 3);
        due("2 of 4", x.feed(0x78662034, 2), 5);
        due("text", x.text(), 1);
        due("kind of 4", x.kind(4, 0), 4);
        due("feed(0, 0)", x.feed(0, 0), BEYOND);
        due("feed(0, 5)", x.feed(0, 5), BEYOND);
        due("feed(0, -1)", x.feed(0, -1), BEYOND);
        for (int i = 1; i <= 29; i++) {
            due("feed", x.feed(-1, 4), 4 * i);
        }
        due("118", x.feed(0, 2), 118);
        due("3 more are too many", x.feed(0, 3), FULL);
        due("2 more are not", x.feed(0, 2), 120);
        due("1 more is", x.feed(0, 1), FULL);
        due("wrong n", x.feed(0, 5), BEYOND);
        due("bytes", x.count(5), 120);
        due("bytes above 127", x.text(), -1);
    }

    private static void wipe() {
        HedgeHeaps x = new HedgeHeaps();
        x.feed(0x66757220, 4);
        due("wipe()", x.wipe(), 4);
        due("wipe()", x.wipe(), 0);
        due("bytes", x.count(5), 0);
        due("nothing is read", x.text(), -1);
    }

    private static void hold() {
        HedgeHeaps x = new HedgeHeaps();
        due("hold(0, 4)", x.hold(0, 4), 1);
        due("hold(9, 0)", x.hold(9, 0), 1);
        due("two hold something", x.count(7), 2);
        due("as(0, 0)", x.as(0, 0), 4);
        due("as(9, 0)", x.as(9, 0), 0);
        due("hold(0, -1)", x.hold(0, -1), 1);
        due("one holds something", x.count(7), 1);
        due("nothing", x.as(0, 0), MISSING);
        int[][] wrong = {{-1, 0}, {10, 0}, {0, -2}, {0, 5}, {FAR_OFF, 0}};
        for (int[] w : wrong) {
            due("wrong hold", x.hold(w[0], w[1]), BEYOND);
        }
    }

    private static void as() {
        HedgeHeaps x = new HedgeHeaps();
        x.hold(3, 2);
        // For each KIND of the THING: as which kinds it may be told.
        int[] may = {0b0000001, 0b0000011, 0b0000101, 0b0001011, 0b0010101, 0b0100001, 0b1100001};
        for (int kind = 0; kind < 7; kind++) {
            x.kind(2, kind);
            for (int k = 0; k < 7; k++) {
                due("kind " + kind + " as " + k, x.as(3, k), (may[kind] >> k & 1) == 1 ? 2 : KIND);
            }
        }
        due("as(-1, 0)", x.as(-1, 0), BEYOND);
        due("as(10, 0)", x.as(10, 0), BEYOND);
        due("as(3, -1)", x.as(3, -1), BEYOND);
        due("as(3, 7)", x.as(3, 7), BEYOND);
        due("as(4, 7)", x.as(4, 7), BEYOND);
        due("as(4, 6)", x.as(4, 6), MISSING);
    }

    private static void sheet() {
        HedgeHeaps x = new HedgeHeaps();
        due("sheet(0, 8, 40)", x.sheet(0, 8, 40), 40);
        due("sheet(3, 16, 0)", x.sheet(3, 16, 0), 0);
        due("not missing", x.load(3), 0);
        due("sheet(1, 32, 1)", x.sheet(1, 32, 1), 1);
        x.write(1, 0, 9);
        due("again", x.sheet(1, 32, 2), 2);
        due("all are 0", x.load(1), 2);
        due("all are 0", x.of(1, 0, WORTH), 0);
        due("sheet(1, 0, 40)", x.sheet(1, 0, 40), 0);
        due("missing", x.load(1), MISSING);
        due("sheet(-1, 8, -1)", x.sheet(-1, 8, -1), BEYOND);
        due("sheet(4, 8, 1)", x.sheet(4, 8, 1), BEYOND);
        due("sheet(0, 7, 1)", x.sheet(0, 7, 1), BEYOND);
        due("sheet(0, 64, -1)", x.sheet(0, 64, -1), BEYOND);
        due("sheet(0, -8, 1)", x.sheet(0, -8, 1), BEYOND);
        due("sheet(0, 24, 1)", x.sheet(0, 24, 1), BEYOND);
        due("sheet(0, 8, -1)", x.sheet(0, 8, -1), SIZE);
        due("sheet(0, 0, -1)", x.sheet(0, 0, -1), SIZE);
        due("sheet(0, 32, MIN)", x.sheet(0, 32, FAR_BELOW), SIZE);
        due("sheet(0, 8, 41)", x.sheet(0, 8, 41), BEYOND);
        due("sheet(0, 0, 41)", x.sheet(0, 0, 41), BEYOND);
        due("as it was", x.write(0, 39, 1), 1);
    }

    private static void write() {
        HedgeHeaps x = new HedgeHeaps();
        due("missing", x.write(0, 0, 0), MISSING);
        due("no such sheet", x.write(4, 0, 0), BEYOND);
        due("no such sheet", x.write(-1, 0, 0), BEYOND);
        // What came is told by load(): a number that is 0 to 20.
        int[][] kept = {{8, 256 + 7, 7}, {8, -256 + 7, 7}, {16, 65536 + 9, 9}, {32, 11, 11}};
        for (int[] k : kept) {
            x.sheet(0, k[0], 2);
            due("write", x.write(0, 0, k[1]), 1);
            due("the second one is 0", x.load(0), 2);
            due("lowest bits", x.of(1, 0, WORTH), k[2]);
        }
        int[][] gone = {{8, 255}, {8, 128}, {8, 127}, {16, 65535}, {16, 256 + 7}, {32, 65536 + 9}, {32, 256}};
        for (int[] g : gone) {
            x.sheet(0, g[0], 2);
            x.write(0, 0, g[1]);
            due("isn't 0 to 20", x.load(0), 0);
        }
        x.sheet(0, 8, 3);
        due("last", x.write(0, 2, 1), 1);
        due("too far", x.write(0, 3, 1), BEYOND);
        due("before", x.write(0, -1, 1), BEYOND);
        x.sheet(0, 8, 0);
        due("no numbers", x.write(0, 0, 1), BEYOND);
    }

    /** The numbers of a sheet that are 0 to 20, told by load(), five at a time. */
    private static void dueNumbers(HedgeHeaps x, int s, int... want) {
        x.sheet(3, 8, 40);
        due("copy to read", x.copy(s, 0, 3, 0, want.length), want.length);
        for (int i = 0; i < want.length; i++) {
            x.copy(3, i, 3, 0, 1);
            x.load(3);
            due("number " + i, x.of(1, 0, WORTH), want[i]);
            x.copy(s, 0, 3, 0, want.length);
        }
    }

    private static void copy() {
        HedgeHeaps x = new HedgeHeaps();
        x.sheet(0, 8, 5);
        x.sheet(1, 8, 4);
        for (int i = 0; i < 5; i++) {
            x.write(0, i, 11 + i);
        }
        due("copy", x.copy(0, 2, 1, 1, 3), 3);
        dueNumbers(x, 1, 0, 13, 14, 15);
        due("forth", x.copy(0, 0, 0, 1, 4), 4);
        dueNumbers(x, 0, 11, 11, 12, 13, 14);
        due("and back", x.copy(0, 1, 0, 0, 4), 4);
        dueNumbers(x, 0, 11, 12, 13, 14, 14);
        due("none", x.copy(0, 5, 1, 4, 0), 0);
        due("all", x.copy(1, 0, 0, 1, 4), 4);
        dueNumbers(x, 0, 11, 0, 13, 14, 15);
        int[][] wrong = {{-1, 0, 0, 0, 0}, {4, 0, 0, 0, 0}, {0, 0, -1, 0, 0}, {0, 0, 4, 0, 0}, {0, -1, 1, 0, 1},
            {0, 0, 1, -1, 1}, {0, 0, 1, 0, -1}, {0, 0, 1, 0, 5}, {0, 2, 1, 0, 4}, {0, 0, 1, 2, 3}, {0, 6, 1, 0, 0},
            {0, 0, 1, 5, 0}, {0, FAR_OFF, 1, 0, 1}, {0, 1, 1, 0, FAR_OFF}, {0, 0, 1, FAR_OFF, FAR_OFF}, {2, 0, 4, 0, 0}};
        for (int[] w : wrong) {
            due("wrong copy", x.copy(w[0], w[1], w[2], w[3], w[4]), BEYOND);
        }
        due("first is missing", x.copy(2, 9, 0, 0, 1), MISSING);
        due("second is missing", x.copy(0, 9, 2, 0, 1), MISSING);
        x.sheet(2, 16, 5);
        due("other bits", x.copy(0, 9, 2, 0, 1), KIND);
        due("other bits", x.copy(2, 0, 0, 0, 1), KIND);
    }

    private static void load() {
        HedgeHeaps x = new HedgeHeaps();
        x.sheet(2, 32, 8);
        int[] numbers = {0, 20, 3, 4, 6, 7};
        for (int i = 0; i < numbers.length; i++) {
            x.write(2, i, numbers[i]);
        }
        due("there are five things", x.load(2), 5);
        for (int t = 0; t < 5; t++) {
            due("worth for side 1", x.of(1, t, WORTH), numbers[t]);
            due("worth for side 0", x.of(0, t, WORTH), 5);
        }
        x.write(2, 0, 9);
        x.write(2, 2, 21);
        due("21 ends it", x.load(2), 2);
        due("came", x.of(1, 0, WORTH), 9);
        due("didn't", x.of(1, 2, WORTH), 3);
        x.write(2, 0, -1);
        due("-1 ends it", x.load(2), 0);
        x.sheet(2, 8, 3);
        due("three", x.load(2), 3);
        due("the fourth stays", x.of(1, 3, WORTH), 4);
        due("load(-1)", x.load(-1), BEYOND);
        due("load(4)", x.load(4), BEYOND);
        due("load(0)", x.load(0), MISSING);
    }

    private static void judge() {
        HedgeHeaps x = new HedgeHeaps();
        x.lay(0, 0, 2);
        x.lay(1, 1, 2);
        x.side(1, 1, 0);
        // Side 0: 10 for 10, less; side 1 has no trust: 3; side 0: less; then nothing.
        int[] done = {2, 3, 2, 0, 0};
        x.sheet(1, 16, 5);
        due("nothing first", x.judge(1), 1);
        for (int i = 0; i < 5; i++) {
            x.write(1, i, done[i]);
        }
        due("all", x.judge(1), 0);
        due("nothing changes", x.now(0) + x.now(4), 0);
        x.write(1, 4, 1);
        due("the fifth doesn't", x.judge(1), 5);
        x.write(1, 2, 1);
        due("the third doesn't", x.judge(1), 3);
        x.sheet(0, 8, 0);
        due("no numbers", x.judge(0), 0);
        due("judge(-1)", x.judge(-1), BEYOND);
        due("judge(4)", x.judge(4), BEYOND);
        due("judge(2)", x.judge(2), MISSING);
    }

    private static void image() {
        HedgeHeaps x = new HedgeHeaps();
        due("image()", x.image(), 1);
        x.nights(3);
        due("image()", x.image(), 1);
        x.nights(2);
        due("the latest", x.undo(), 3);
    }

    private static void undo() {
        HedgeHeaps x = new HedgeHeaps();
        due("nothing is kept", x.undo(), NONE);
        Check.tell(x, "food 0;doll1;side 0 greed 9 trust 7;home 0 1 50;worth 1 2 8;heap 1 2 1;heap0 0 9;frost 3");
        x.seed(77);
        x.hold(5, 1);
        x.nights(1);
        int[] count = counts(x);
        int deed = x.book(0, 0);
        x.image();
        x.sheet(0, 8, 2);
        x.write(0, 1, 6);
        x.feed(0x66, 1);
        Check.due("text", x.wipe(), 1);
        x.kind(0, 6);
        x.kind(1, 0);
        x.side(0, 0, 1);
        x.side(1, 1, 9);
        x.change(0, 1, HOME, 3);
        x.change(1, 2, WORTH, 3);
        x.frost(9);
        x.hold(5, -1);
        x.hold(6, 2);
        x.season(12);
        x.nights(20);
        x.lay(0, 3, 3);
        x.feed(0x6667, 2);
        due("a finding", x.lay(-1, 0, 0), BEYOND);
        due("undo()", x.undo(), 1);
        due("kind 0", x.kind(0, 1), 1);
        due("kind 1", x.kind(1, 6), 6);
        due("greed", x.side(0, 0, 9), 9);
        due("home", x.of(0, 1, HOME), 50);
        due("worth", x.of(1, 2, WORTH), 8);
        due("frost", x.now(5), 3);
        due("books", x.now(4), 1);
        due("books", x.book(0, 0), deed);
        due("no second night", x.book(1, 0), NONE);
        due("spot 5", x.as(5, 6), 1);
        due("spot 6", x.as(6, 0), MISSING);
        due("the tape isn't kept", x.wipe(), 2);
        int[] then = counts(x);
        for (int what = 0; what < 8; what++) {
            due("count(" + what + ")", then[what], count[what]);
        }
        due("findings stay", x.status(-1), 4);
        due("sheets aren't kept", x.load(0), 2);
        due("sheets aren't kept", x.of(1, 1, WORTH), 6);
        x.nights(5);
        due("it stays", x.undo(), 1);
    }

    private static int[] counts(HedgeHeaps x) {
        int[] count = new int[8];
        for (int what = 0; what < 8; what++) {
            count[what] = x.count(what);
        }
        return count;
    }

    private static void tear() {
        HedgeHeaps x = new HedgeHeaps();
        due("nothing", x.tear(), 0);
        x.image();
        x.image();
        due("something", x.tear(), 1);
        due("nothing more", x.tear(), 0);
        due("nothing is kept", x.undo(), NONE);
    }

    private static void count() {
        HedgeHeaps x = new HedgeHeaps();
        x.kind(0, 1);
        x.lay(0, 0, 5);
        x.lay(1, 1, 4);
        x.side(0, 1, 3);
        x.feed(0, 3);
        x.hold(2, 2);
        x.seed(-5);
        due("things in both heaps", x.count(2), 9);
        due("trust of both", x.count(3), 8);
        // 25 for 20: one less, one eaten; 15 for 20: one less, one eaten; then 15 for 10.
        due("one takes", x.nights(3), 1);
        int[] want = {3, 1, 0, 10, 2, 3, -5, 1};
        for (int what = 0; what < 8; what++) {
            due("count(" + what + ")", x.count(what), want[what]);
        }
        due("count(-1)", x.count(-1), BEYOND);
        due("count(8)", x.count(8), BEYOND);
    }

    private static void status() {
        HedgeHeaps x = new HedgeHeaps();
        x.frost(10);
        x.frost(-1);
        x.hold(0, 0);
        x.as(0, 6);
        x.undo();
        x.less(0);
        x.less(1);
        x.steal(0);
        x.load(0);
        x.load(1);
        x.sheet(0, 0, -1);
        x.image();
        for (int i = 0; i < 31; i++) {
            x.feed(0, 4);
        }
        Check.due("text", x.text(), -1);
        int[] want = {2, 1, 1, 3, 1, 2, 1};
        for (int which = 0; which < 7; which++) {
            due("status(" + which + ")", x.status(which), want[which]);
        }
        due("all", x.status(-1), 11);
        x.undo();
        due("all, after undo()", x.status(-1), 11);
        due("status(7)", x.status(7), BEYOND);
        due("status(-2)", x.status(-2), BEYOND);
        due("those count, too", x.status(0), 4);
        due("all", x.status(-1), 13);
    }
}
