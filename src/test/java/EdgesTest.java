import java.util.function.Supplier;

/**
 * The sentences of promises 1 to 48 at their edges, so far as they answer: the first and the last that can come, of
 * several the least or the first one, empty and full, and that what only looks changes nothing. What is refused stands
 * in RangesTest and RefusedTest, the words under "Terms" in TermsTest, TEXTS in TextTest. Answers worked out by hand.
 */
public final class EdgesTest {
    private static final int HOME = Check.HOME;
    private static final int HEAP = Check.HEAP;
    private static final int WORTH = Check.WORTH;
    private static final int GREED = 0;
    private static final int TRUST = 1;
    private static final int ALL_WORTHS = (1 << 21) - 1;

    private static String promise = "";

    private static void due(String what, long got, long want) {
        Check.due("promise " + promise + ": " + what, got, want);
    }

    public static void main(String[] args) {
        promise = "3 to 31, 38, 43, 47, 48"; looksChangeNothing();
        promise = "10 lay"; lay();
        promise = "11 back"; back();
        promise = "15 steal"; steal();
        promise = "16 gift"; giftTo99(); giftTrustTo9(); giftWithoutTrust();
        promise = "17 nights"; nights();
        promise = "18 now"; nowOfMost();
        promise = "19 ahead"; aheadNone(); aheadSixty();
        promise = "20 struck"; struck();
        promise = "21 empty"; empty();
        promise = "22 best"; bestOfLeastAndMost(); bestOfSideOne(); bestOfAsManyAsItHas(); bestTakesHomeFirst(); bestOfSeveral();
        promise = "23 gain"; gain();
        promise = "24 greed"; greed(); greedOfSideOne();
        promise = "25 kindFor"; kindFor();
        promise = "26 temptation"; temptation();
        promise = "27 bundle"; bundleEnds(); bundleGains(); bundleAtHome();
        promise = "29 fits"; fits(); fitsOfEach();
        promise = "30 greeds"; greeds(); greedsOfSideOne(); trustOfSideOne();
        promise = "31 known"; known();
        promise = "32 season"; seasonAsManyTimes(); seasonIfItMay(); seasonFrost();
        promise = "33 seed"; seed();
        promise = "34 feed"; feed();
        promise = "35 wipe"; wipe();
        promise = "39 sheet"; sheetAnew();
        promise = "41 copy"; copyAsTheyAllWere(); copyOfBits();
        promise = "42 load"; load();
        promise = "43 judge"; judge();
        promise = "44 to 46 images"; images(); imageHoldsWhatWasEver(); imageHoldsAllButTapeAndSheets(); imageHoldsAllBooks();
        promise = "47 count"; count();
        promise = "48 status"; status();
        Check.end("EdgesTest");
    }

    // ---- what only looks

    private static void looksChangeNothing() {
        Supplier<HedgeHeaps> made = Whole::filled;
        HedgeHeaps x = made.get();
        int far = x.ahead(60, 3);
        Whole.asks("of", made, y -> y.of(1, 4, HEAP), 4);
        Whole.asks("price", made, y -> y.price(1, 3, 99), 99 * 5);
        Whole.asks("value", made, y -> y.value(0, 1), x.value(0, 1));
        Whole.asks("eaten", made, y -> y.eaten(0, 99), 2);
        Whole.asks("content", made, y -> y.content(1), 1);
        Whole.asks("does", made, y -> y.does(0), 2);
        Whole.asks("less", made, y -> y.less(0), 3);
        Whole.asks("now", made, y -> y.now(3), x.now(3));
        Whole.asks("ahead", made, y -> y.ahead(60, 3), far);
        Whole.asks("struck", made, y -> y.struck(), 1);
        Whole.asks("empty", made, y -> y.empty(), 1);
        for (int side = 0; side < 2; side++) {
            int s = side;
            Whole.asks("best", made, y -> y.best(s, 30), x.best(s, 30));
            Whole.asks("gain", made, y -> y.gain(s, 30), x.gain(s, 30));
            Whole.asks("greed", made, y -> y.greed(s, 30), x.greed(s, 30));
            Whole.asks("temptation", made, y -> y.temptation(s, 60), x.temptation(s, 60));
            Whole.asks("known", made, y -> y.known(s), x.known(s));
            Whole.asks("greeds", made, y -> y.greeds(s), x.greeds(s));
            Whole.asks("fits", made, y -> y.fits(s, 3), x.fits(s, 3));
        }
        Whole.asks("kindFor", made, y -> y.kindFor(3, 30), x.kindFor(3, 30));
        Whole.asks("bundle", made, y -> y.bundle(), x.bundle());
        Whole.asks("book", made, y -> y.book(4, 6), 0);
        Whole.asks("as", made, y -> y.as(2, 1), 3);
        Whole.asks("judge", made, y -> y.judge(1), x.judge(1));
        for (int what = 0; what < 8; what++) {
            int w = what;
            Whole.asks("count", made, y -> y.count(w), x.count(w));
            Whole.asks("status", made, y -> y.status(w - 1), x.status(w - 1));
        }
    }

    // ---- heaps

    private static void lay() {
        for (int place = 0; place < 10; place++) {
            HedgeHeaps x = new HedgeHeaps();
            x.side(place / 5, TRUST, 1);
            due("one", x.lay(place / 5, place % 5, 1), 1);
            due("the other nine", x.lay(place / 5, place % 5, 9), 10);
            for (int other = 0; other < 10; other++) {
                due("HEAP", x.of(other / 5, other % 5, HEAP), other == place ? 10 : 0);
                due("HOME", x.of(other / 5, other % 5, HOME), other == place ? 0 : 10);
            }
            due("TRUST stays", x.side(place / 5, TRUST, 0), 1);
            due("no night goes", x.count(0), 0);
        }
    }

    private static void back() {
        for (int place = 0; place < 10; place++) {
            HedgeHeaps x = new HedgeHeaps();
            x.change(place / 5, place % 5, HEAP, 89);
            due("one", x.back(place / 5, place % 5, 1), 88);
            due("all others", x.back(place / 5, place % 5, 88), 0);
            for (int other = 0; other < 10; other++) {
                due("HEAP", x.of(other / 5, other % 5, HEAP), 0);
                due("HOME", x.of(other / 5, other % 5, HOME), other == place ? 99 : 10);
            }
            due("TRUST stays", x.count(3), 10);
        }
    }

    private static void steal() {
        int[][] homes = {{0, 99, 99}, {98, 1, 99}, {98, 2, 99}, {99, 99, 99}, {97, 1, 98}};
        for (int[] h : homes) {
            for (int side = 0; side < 2; side++) {
                HedgeHeaps x = new HedgeHeaps();
                x.change(side, 4, HOME, h[0]);
                x.change(1 - side, 4, HEAP, h[1]);
                x.change(side, 0, HEAP, 7);
                x.change(1 - side, 4, WORTH, 20);
                x.side(side, TRUST, 0);
                x.side(1 - side, TRUST, 9);
                due("VALUE for the thief, of all of them", x.steal(side), 5 * h[1]);
                due("HOME", x.of(side, 4, HOME), h[2]);
                due("the other's HOME", x.of(1 - side, 4, HOME), 10);
                due("that HEAP", x.now(2 - side), 0);
                due("its own HEAP stays", x.of(side, 0, HEAP), 7);
                due("TRUST of both", x.count(3), 0);
                due("no bargain, no night", x.count(1) + x.count(0), 0);
            }
        }
    }

    private static void giftTo99() {
        int[][] homes = {{99, 0, 99, 99}, {1, 98, 1, 99}, {2, 98, 2, 99}, {99, 99, 99, 99}, {50, 97, 1, 98}};
        for (int[] h : homes) {
            for (int side = 0; side < 2; side++) {
                HedgeHeaps x = new HedgeHeaps();
                x.change(side, 3, HOME, h[0]);
                x.change(1 - side, 3, HOME, h[1]);
                due("TRUST", x.gift(side, 3, h[2]), 6);
                due("the giver's HOME", x.of(side, 3, HOME), h[0] - h[2]);
                due("the other's HOME", x.of(1 - side, 3, HOME), h[3]);
                due("HEAPS stay empty", x.now(1) + x.now(2), 0);
            }
        }
    }

    private static void giftTrustTo9() {
        HedgeHeaps x = new HedgeHeaps();
        x.side(1, TRUST, 0);
        int[] trust = {1, 2, 3, 4, 5, 6, 7, 8, 9, 9};
        for (int i = 0; i < 10; i++) {
            due("TRUST", x.gift(0, 0, 1), trust[i]);
        }
        due("the giver's stays", x.side(0, TRUST, 5), 5);
        due("ten came", x.of(1, 0, HOME), 20);
        due("none is left", x.gift(0, 0, 1), Check.STATE);
    }

    private static void giftWithoutTrust() {
        HedgeHeaps x = new HedgeHeaps();
        x.side(0, TRUST, 0);
        due("the giver's TRUST is 0", x.gift(0, 0, 1), 6);
    }

    // ---- nights

    private static void nights() {
        HedgeHeaps x = new HedgeHeaps();
        due("60, in none one TAKES", x.nights(60), 0);
        due("NIGHT", x.count(0), 60);
        x.change(1, 0, HEAP, 1);
        due("one, in which side 0 TAKES", x.nights(1), 1);
        due("NIGHT", x.count(0), 61);
        x.change(0, 0, HEAP, 2);
        due("60, in the first side 1 TAKES", x.nights(60), 1);
        due("NIGHT", x.count(0), 121);
        due("bargains struck ever", x.now(6), 2);
    }

    private static void nowOfMost() {
        HedgeHeaps x = new HedgeHeaps();
        for (int place = 0; place < 10; place++) {
            x.change(place / 5, place % 5, HOME, 99);
            x.change(place / 5, place % 5, HEAP, place < 5 ? 99 : 98);
        }
        x.frost(9);
        due("THINGS in HEAP 0", x.now(1), 495);
        due("THINGS in HEAP 1", x.now(2), 490);
        due("at HOME in both", x.now(3), 990);
        due("THINGS in both", x.count(2), 985);
        due("FROST", x.now(5), 9);
        for (int place = 0; place < 10; place++) {
            x.change(place / 5, place % 5, HOME, 0);
            x.change(place / 5, place % 5, HEAP, 0);
        }
        due("none", x.now(1) + x.now(2) + x.now(3) + x.count(2), 0);
        for (int n = 1; n <= 14; n++) {
            x.nights(1);
            due("in BOOKS", x.now(4), Math.min(12, n));
            due("NIGHT", x.now(0), n);
        }
    }

    private static void aheadNone() {
        HedgeHeaps x = Whole.filled();
        due("in none one TAKES", x.ahead(0, 0), 0);
        due("THINGS in both HEAPS", x.ahead(0, 1), x.count(2));
        due("none eaten", x.ahead(0, 2), 0);
        due("no more", x.ahead(0, 3), 0);
        due("no more", x.ahead(0, 4), 0);
    }

    private static void aheadSixty() {
        HedgeHeaps x = new HedgeHeaps();
        x.kind(0, 3);
        x.change(0, 0, HOME, 0);
        x.change(0, 0, HEAP, 99);
        x.side(1, TRUST, 0);
        // Each night two are eaten, in each of its own nights side 0 takes one HOME first: 5 in 2 nights, 100 in 40.
        due("one night", x.ahead(1, 1), 96);
        due("39 nights: 20 HOME, 78 eaten", x.ahead(39, 1), 1);
        due("eaten", x.ahead(39, 2), 78);
        due("40 nights", x.ahead(40, 1), 0);
        due("eaten", x.ahead(40, 2), 79);
        due("60 nights", x.ahead(60, 2), 79);
        due("by how much more: 20 for 99", x.ahead(60, 3), -79 * 5);
        due("side 1", x.ahead(60, 4), 0);
    }

    private static HedgeHeaps strugglingOver(int greed) {
        HedgeHeaps x = new HedgeHeaps();
        x.change(0, 0, HEAP, 40);
        x.change(1, 1, HEAP, 30);
        x.change(1, 1, WORTH, 6);
        x.side(1, GREED, greed);
        return x;
    }

    private static void struck() {
        HedgeHeaps x = new HedgeHeaps();
        x.change(0, 0, HEAP, 1);
        x.side(0, TRUST, 1);
        x.side(0, GREED, 50);
        // Side 0 takes its own one HOME, so that side 1 finds none.
        due("gone before", x.struck(), Check.NONE);
        x.change(0, 0, HEAP, 2);
        due("in the second night", x.struck(), 2);
        x.nights(1);
        due("in the first", x.struck(), 1);
        // Behind k nights of its own side 1 sees 39 - k of worth 5 for 30 - k of worth 6: it is 15 + k more.
        due("in the 60th", strugglingOver(44).struck(), 60);
        due("in the 61st at soonest", strugglingOver(45).struck(), Check.NONE);
        HedgeHeaps y = strugglingOver(45);
        y.nights(1);
        due("that is the 61st", y.struck(), Check.NONE);
        y.nights(1);
        due("that is the 60th now", y.struck(), 60);
    }

    private static HedgeHeaps heapOf(int n) {
        HedgeHeaps x = new HedgeHeaps();
        x.change(0, 0, HEAP, n);
        x.side(1, TRUST, 0);
        return x;
    }

    private static void empty() {
        due("at once", heapOf(0).empty(), 0);
        due("behind one night", heapOf(1).empty(), 1);
        due("behind 59", heapOf(30).empty(), 59);
        due("behind 61", heapOf(31).empty(), Check.NONE);
        HedgeHeaps x = heapOf(30);
        x.side(0, TRUST, 0);
        x.side(1, TRUST, 5);
        x.change(1, 0, HEAP, 30);
        due("side 0's at once, side 1's behind 60", x.empty(), 60);
        x.change(1, 0, HEAP, 31);
        due("behind 62", x.empty(), Check.NONE);
        x.change(0, 0, HEAP, 0);
        x.change(1, 0, HEAP, 1);
        due("side 0's is empty, side 1's isn't", x.empty(), 2);
        x.nights(1);
        due("behind one", x.empty(), 1);
    }

    // ---- what to lay

    /** Side 1 wants so much for what is worth 20 to side 0; side 0's own things are worth nothing to it. */
    private static HedgeHeaps asking(int greed) {
        return askingOf(1, greed);
    }

    /** The same of that side; the next night is its own. */
    private static HedgeHeaps askingOf(int owner, int greed) {
        HedgeHeaps x = new HedgeHeaps();
        if (owner == 1) {
            x.nights(1);
        }
        x.change(owner, 4, HEAP, 1);
        x.change(owner, 4, WORTH, 0);
        x.change(1 - owner, 4, WORTH, 20);
        for (int t = 0; t < 3; t++) {
            x.change(1 - owner, t, WORTH, 0);
        }
        x.side(owner, GREED, greed);
        return x;
    }

    private static void bestOfLeastAndMost() {
        due("nothing to lay is enough", asking(0).best(0, 1), 1);
        due("one of thing 0", asking(5).best(0, 1), 1);
        due("two of thing 0", asking(6).best(0, 1), 2);
        due("three of thing 0", asking(15).best(0, 1), 3);
        due("and one of thing 1", asking(16).best(0, 1), 7);
        due("and two of thing 1", asking(25).best(0, 1), 11);
        due("three and three", asking(30).best(0, 1), 15);
        due("and one of thing 2", asking(31).best(0, 1), 31);
        due("all nine", asking(45).best(0, 1), 63);
        due("gain", asking(45).gain(0, 1), 20);
        due("nine aren't enough", asking(46).best(0, 1), 0);
        due("no gain", asking(46).gain(0, 1), 0);
        HedgeHeaps x = new HedgeHeaps();
        due("30 nights, nothing to gain", x.best(1, 30), 0);
        due("no gain", x.gain(1, 30), 0);
    }

    private static void bestOfSideOne() {
        due("two of thing 0", askingOf(0, 6).best(1, 1), 2);
        due("gain", askingOf(0, 6).gain(1, 1), 20);
        due("side 0 loses nothing by it", askingOf(0, 6).gain(0, 1), 0);
        due("all nine", askingOf(0, 45).best(1, 1), 63);
        due("nine aren't enough", askingOf(0, 46).gain(1, 1), 0);
        HedgeHeaps x = askingOf(0, 6);
        for (int t = 0; t < 3; t++) {
            x.change(0, t, HOME, 0);
        }
        due("what side 0 has doesn't count", x.best(1, 1), 2);
        x.change(1, 0, HOME, 1);
        due("what side 1 has does: one of 0, one of 1", x.best(1, 1), 5);
    }

    private static void bestOfAsManyAsItHas() {
        for (int t = 0; t < 3; t++) {
            for (int has = 0; has < 4; has++) {
                HedgeHeaps x = asking(45);
                x.change(0, t, HOME, has);
                due("has " + has + " of thing " + t, x.best(0, 1), has == 3 ? 63 : 0);
                x.change(0, t, HEAP, 3 - has);
                due("the others in its HEAP", x.best(0, 1), 63);
                x.side(1, GREED, 35);
                due("seven are enough", x.best(0, 1), 31);
            }
        }
        HedgeHeaps x = asking(15);
        x.change(0, 0, HOME, 2);
        due("two of 0, one of 1", x.best(0, 1), 6);
        x.change(0, 0, HOME, 0);
        due("three of 1", x.best(0, 1), 12);
        x.change(0, 1, HOME, 0);
        due("three of 2", x.best(0, 1), 48);
        x.change(0, 2, HOME, 0);
        due("none is there", x.best(0, 1), 0);
        x.change(0, 3, HEAP, 50);
        due("thing 3 isn't laid", x.best(0, 1), 0);
    }

    private static void bestTakesHomeFirst() {
        HedgeHeaps x = new HedgeHeaps();
        x.change(0, 3, HOME, 98);
        x.change(0, 3, HEAP, 1);
        due("to 99: nothing is lost", x.gain(0, 1), 0);
        x.change(0, 3, HEAP, 2);
        due("to 99: one is lost", x.gain(0, 1), -5);
        x.change(0, 3, HOME, 99);
        x.change(0, 3, HEAP, 99);
        due("99 are lost", x.gain(0, 30), -495);
        due("still the least number", x.best(0, 30), 0);
        due("nothing changes", x.of(0, 3, HEAP), 99);
    }

    private static void bestOfSeveral() {
        HedgeHeaps x = asking(0);
        x.change(1, 4, WORTH, 5);
        x.side(1, GREED, 10);
        for (int t = 0; t < 3; t++) {
            x.change(1, t, WORTH, 15);
        }
        due("one of any: the least number", x.best(0, 1), 1);
        x.change(0, 0, WORTH, 1);
        due("thing 0 is worth something", x.best(0, 1), 4);
        x.change(0, 1, WORTH, 1);
        due("thing 1, too", x.best(0, 1), 16);
        x.change(0, 2, WORTH, 1);
        due("all alike", x.best(0, 1), 1);
    }

    private static void gain() {
        HedgeHeaps x = new HedgeHeaps();
        due("nothing", x.gain(0, 1), 0);
        x.change(1, 0, HEAP, 1);
        x.change(0, 0, WORTH, 20);
        due("what it takes", x.gain(0, 1), 20);
        due("side 1 keeps what it lays aside", x.gain(1, 2), 0);
        x.change(0, 0, WORTH, 1);
        due("not for GREED 2", x.gain(0, 30), 0);
        x.side(0, TRUST, 1);
        x.side(0, GREED, 1);
        due("for GREED 1", x.gain(0, 30), 1);
    }

    private static void greed() {
        HedgeHeaps x = new HedgeHeaps();
        due("all alike: 0", x.greed(0, 30), 0);
        x.change(1, 0, HEAP, 99);
        due("it TAKES with any: 0", x.greed(0, 1), 0);
        x.change(0, 0, HEAP, 99);
        x.change(0, 0, WORTH, 0);
        x.change(1, 0, WORTH, 0);
        due("no WORTH, no growth: 0", x.greed(0, 30), 0);
        HedgeHeaps y = new HedgeHeaps();
        y.change(0, 0, HEAP, 1);
        y.change(1, 1, HEAP, 1);
        y.change(0, 0, WORTH, 20);
        y.change(0, 1, WORTH, 20);
        y.side(1, GREED, 50);
        // With 0 it changes 20 for 20, with any other it takes its own one HOME.
        due("nothing grows: 0", y.greed(0, 1), 0);
        y.change(0, 1, WORTH, 19);
        due("19 for 20 isn't taken with 0 either", y.greed(0, 1), 0);
        HedgeHeaps z = new HedgeHeaps();
        z.change(0, 0, HEAP, 14);
        z.change(0, 0, WORTH, 6);
        z.change(1, 1, HEAP, 24);
        z.change(1, 0, WORTH, 0);
        z.side(1, GREED, 50);
        // In its k-th night (from 0) side 0 sees 24 - k of worth 5 for 14 - k of worth 6: 36 + k more.
        due("the most GREED is best", z.greed(0, 29), 50);
        z.change(1, 1, HEAP, 23);
        z.change(1, 2, HEAP, 1);
        z.change(1, 2, WORTH, 0);
        z.change(0, 2, WORTH, 6);
        // One of 6 among them, which side 1 takes away last: 37 + k more, 51 with k 14.
        due("51 would be better, but isn't one", z.greed(0, 29), 50);
        due("not so far", z.greed(0, 26), 49);
        due("nothing changes", z.side(0, GREED, 2), 2);
    }

    private static void greedOfSideOne() {
        HedgeHeaps x = new HedgeHeaps();
        x.nights(1);
        x.change(1, 0, HEAP, 14);
        x.change(1, 0, WORTH, 6);
        x.change(0, 1, HEAP, 24);
        x.change(0, 0, WORTH, 0);
        x.side(0, GREED, 50);
        // In its k-th night from now (from 0) side 1 sees 24 - k of worth 5 for 14 - k of worth 6: 36 + k more.
        due("the most GREED is best", x.greed(1, 29), 50);
        due("49 in night 26", x.greed(1, 28), 49);
        due("37 in night 2", x.greed(1, 3), 37);
        due("36 at once", x.greed(1, 2), 0);
        due("nothing changes", x.side(1, GREED, 2) + x.side(0, GREED, 2), 52);
    }

    private static void kindFor() {
        HedgeHeaps x = new HedgeHeaps();
        for (int t = 0; t < 5; t++) {
            due("nothing moves: 0", x.kindFor(t, 30), 0);
        }
        x.kind(0, 6);
        due("whatever it is now", x.kindFor(0, 1), 0);
        x.change(1, 0, HEAP, 4);
        x.change(0, 0, WORTH, 10);
        x.change(0, 0, HOME, 0);
        x.change(1, 0, WORTH, 0);
        // Side 1 loses nothing: side 0 gets 40 with a thing, cloth and fur as much, a doll 28, of food all before birds.
        due("of several the least", x.kindFor(0, 1), 0);
        x.frost(1);
        // Cloth: 44 less 4; fur 48 less 8: as much.
        due("frost for both", x.kindFor(0, 1), 0);
        x.change(1, 0, HOME, 99);
        x.change(0, 0, WORTH, 20);
        x.change(1, 0, WORTH, 20);
        x.change(1, 0, HEAP, 1);
        // Side 0's first: a thing 20 less 20, cloth and fur the same, a tool 20 less 10, a doll 23 less 10.
        due("the most KIND is best", x.kindFor(0, 1), 6);
        due("both by that KIND: nothing changes", x.kind(0, 0), 6);
    }

    private static void temptation() {
        HedgeHeaps x = new HedgeHeaps();
        x.change(0, 4, HOME, 97);
        x.change(1, 4, HEAP, 99);
        x.change(0, 4, HEAP, 99);
        x.side(0, GREED, 50);
        // Stolen: 99 and 99; without that one goes from HEAP to HOME.
        due("two come, 97 are gone", x.temptation(0, 1), 10);
        x.change(0, 4, HOME, 99);
        due("none comes, and one is gone else", x.temptation(0, 1), 5);
        due("its own HEAP stays with a thief", x.temptation(1, 1), 89 * 5);
        due("no TRUST ends, nothing goes", x.count(3) * 1000 + x.now(1), 10099);
        HedgeHeaps y = new HedgeHeaps();
        y.change(1, 0, HEAP, 1);
        due("nothing to steal, and its own one is taken", y.temptation(1, 1), 5);
        due("it takes that at once, too", y.temptation(0, 60), 0);
        y.back(1, 0, 1);
        due("both HEAPS are empty", y.temptation(0, 60) + y.temptation(1, 60), 0);
    }

    private static void bundleEnds() {
        HedgeHeaps x = new HedgeHeaps();
        x.change(0, 1, WORTH, 6);
        x.change(1, 0, WORTH, 6);
        due("gives 0 for 1", x.bundle(), 1);
        HedgeHeaps y = new HedgeHeaps();
        y.change(0, 3, WORTH, 6);
        y.change(1, 4, WORTH, 6);
        due("gives 4 for 3", y.bundle(), 43);
        y.change(0, 1, WORTH, 6);
        due("of several the first", y.bundle(), 41);
        y.change(1, 2, WORTH, 6);
        due("of several the first", y.bundle(), 21);
        y.change(0, 3, WORTH, 7);
        due("the greatest sum", y.bundle(), 23);
    }

    private static void bundleGains() {
        HedgeHeaps x = new HedgeHeaps();
        x.change(0, 1, WORTH, 20);
        x.change(0, 0, WORTH, 0);
        due("side 1 gets as much as it gives", x.bundle(), Check.NONE);
        x.change(1, 0, WORTH, 6);
        due("one more is a gain", x.bundle(), 1);
        x.change(0, 1, WORTH, 5);
        x.change(0, 0, WORTH, 5);
        due("side 0 gets as much as it gives", x.bundle(), Check.NONE);
        HedgeHeaps y = new HedgeHeaps();
        y.kind(2, 6);
        y.change(1, 2, WORTH, 2);
        y.change(0, 2, WORTH, 3);
        // A doll is 6 to side 0, 5 to side 1: as much as a thing.
        due("a doll of 5 for 5", y.bundle(), Check.NONE);
        y.change(1, 2, WORTH, 1);
        due("a doll of 4 for 5", y.bundle(), 2);
        y.change(0, 2, WORTH, 2);
        due("5 for 5 to side 0", y.bundle(), Check.NONE);
    }

    private static void bundleAtHome() {
        HedgeHeaps x = new HedgeHeaps();
        x.change(0, 1, WORTH, 6);
        x.change(1, 0, WORTH, 6);
        x.change(0, 0, HOME, 1);
        x.change(1, 1, HOME, 1);
        due("one at HOME on both sides", x.bundle(), 1);
        x.lay(0, 0, 1);
        due("it lies in side 0's HEAP", x.bundle(), Check.NONE);
        x.back(0, 0, 1);
        x.lay(1, 1, 1);
        due("it lies in side 1's HEAP", x.bundle(), Check.NONE);
    }

    // ---- books

    private static void fits() {
        HedgeHeaps x = new HedgeHeaps();
        for (int place = 0; place < 10; place++) {
            due("no NIGHT: any", x.fits(place / 5, place % 5), ALL_WORTHS);
        }
        x.change(1, 0, HEAP, 1);
        x.side(0, GREED, 0);
        x.nights(1);
        due("for nothing: any", x.fits(0, 0), ALL_WORTHS);
        x.side(0, GREED, 20);
        due("GREED 20: 20 alone", x.fits(0, 0), 1 << 20);
        x.side(0, GREED, 21);
        due("GREED 21: none", x.fits(0, 0), 0);
        due("side 1 had no NIGHT", x.fits(1, 0), ALL_WORTHS);
        x.nights(1);
        due("side 1 did nothing, whatever it is worth", x.fits(1, 0), ALL_WORTHS);
        HedgeHeaps y = new HedgeHeaps();
        y.change(0, 0, HEAP, 1);
        y.change(1, 0, HEAP, 1);
        y.side(0, GREED, 1);
        y.nights(1);
        due("LESS whatever it is worth", y.fits(0, 0), ALL_WORTHS);
        due("of another thing, too", y.fits(0, 4), ALL_WORTHS);
        due("how many: 21", Integer.bitCount(y.fits(0, 0)), 21);
        HedgeHeaps z = new HedgeHeaps();
        z.change(0, 0, HEAP, 1);
        z.change(1, 1, HEAP, 1);
        z.side(0, GREED, 0);
        z.change(0, 1, WORTH, 0);
        z.change(0, 0, WORTH, 1);
        z.nights(1);
        // 0 for 1 isn't enough: LESS.
        due("0 alone", z.fits(0, 1), 1);
        due("all but 0", z.fits(0, 0), ALL_WORTHS - 1);
        z.side(0, TRUST, 0);
        z.change(0, 0, HEAP, 1);
        z.nights(2);
        due("3 without TRUST fits any", z.fits(0, 1), 1);
    }

    private static void fitsOfEach() {
        for (int place = 0; place < 10; place++) {
            int side = place / 5;
            HedgeHeaps x = new HedgeHeaps();
            x.nights(2 + side);
            x.change(1 - side, place % 5, HEAP, 2);
            x.side(side, GREED, 10);
            due("two of 5 for GREED 10", x.nights(1), 1);
            for (int other = 0; other < 10; other++) {
                due("5 and more of that one, any of all others", x.fits(other / 5, other % 5),
                    other == place ? ALL_WORTHS - 31 : ALL_WORTHS);
            }
            due("that is known best", x.known(side), place % 5);
            due("of the other side nothing", x.known(1 - side), 0);
        }
    }

    private static void greeds() {
        HedgeHeaps x = new HedgeHeaps();
        due("no NIGHT: any of 31", x.greeds(0), Integer.MAX_VALUE);
        x.change(1, 0, HEAP, 6);
        x.side(0, GREED, 50);
        x.nights(1);
        due("nothing, though 30: none of 31", x.greeds(0), 0);
        due("31 and more aren't told", x.greeds(1), Integer.MAX_VALUE);
        x.change(0, 0, WORTH, 4);
        due("24 isn't enough: 25 to 30", x.greeds(0), 63 << 25);
        x.change(0, 0, WORTH, 0);
        due("all but 0", x.greeds(0), Integer.MAX_VALUE - 1);
        HedgeHeaps y = new HedgeHeaps();
        y.change(1, 0, HEAP, 1);
        y.change(0, 1, HEAP, 1);
        y.side(0, GREED, 0);
        y.nights(1);
        due("5 for 5: 0 alone", y.greeds(0), 1);
        due("side 1 had no NIGHT", y.greeds(1), Integer.MAX_VALUE);
        y.change(0, 1, WORTH, 6);
        due("5 for 6: none", y.greeds(0), 0);
    }

    private static void greedsOfSideOne() {
        HedgeHeaps x = new HedgeHeaps();
        x.nights(1);
        x.change(0, 0, HEAP, 6);
        x.side(1, GREED, 50);
        x.nights(1);
        due("nothing, though 30: none of 31", x.greeds(1), 0);
        due("side 0 did nothing before", x.greeds(0), Integer.MAX_VALUE);
        x.change(1, 0, WORTH, 4);
        due("24 isn't enough: 25 to 30", x.greeds(1), 63 << 25);
        x.change(0, 0, WORTH, 9);
        due("by its own WORTHS", x.greeds(1), 63 << 25);
    }

    /** Of a NIGHT of side 1 it is the TRUST of side 1 that stands in BOOKS. */
    private static void trustOfSideOne() {
        HedgeHeaps x = new HedgeHeaps();
        x.nights(1);
        x.side(1, TRUST, 0);
        x.change(1, 3, HEAP, 2);
        due("side 1 takes its own HOME", x.nights(1) + x.book(0, 0), 3);
        x.side(1, TRUST, 5);
        due("without TRUST any fits", x.fits(1, 3), ALL_WORTHS);
        due("any GREED, too", x.greeds(1), Integer.MAX_VALUE);
        HedgeHeaps y = new HedgeHeaps();
        y.nights(1);
        y.side(0, TRUST, 0);
        y.change(0, 3, HEAP, 1);
        due("side 1 TAKES", y.nights(1), 1);
        due("5 for nothing: GREED 0 to 5", y.greeds(1), 63);
        due("GREED 2: 2 and more", y.fits(1, 3), ALL_WORTHS - 3);
    }

    private static void known() {
        HedgeHeaps x = new HedgeHeaps();
        due("all alike: 0", x.known(0) + x.known(1), 0);
        x.change(1, 4, HEAP, 1);
        x.nights(1);
        due("the last thing", x.known(0), 4);
        due("side 1: 0", x.known(1), 0);
        HedgeHeaps y = new HedgeHeaps();
        y.change(1, 2, HEAP, 1);
        y.change(1, 3, HEAP, 1);
        y.nights(1);
        // 5 for the other one is enough: any fits.
        due("nothing told by that: 0", y.known(0), 0);
        y.side(0, GREED, 10);
        due("5 and more for both: the least", y.known(0), 2);
        y.side(0, GREED, 50);
        due("none fits for any: 0", y.known(0), 0);
        HedgeHeaps z = new HedgeHeaps();
        z.nights(1);
        z.change(0, 0, HEAP, 1);
        z.side(1, GREED, 0);
        z.nights(1);
        z.side(1, GREED, 20);
        due("thing 0 with 20 alone", z.fits(1, 0), 1 << 20);
        due("thing 1 with none, as 5 for thing 0 was too little", z.fits(1, 1), 0);
        due("none is fewer than one", z.known(1), 1);
    }

    // ---- draws

    private static void seasonAsManyTimes() {
        for (int n = 1; n <= 12; n++) {
            HedgeHeaps x = new HedgeHeaps();
            HedgeHeaps y = new HedgeHeaps();
            int takes = 0;
            for (int i = 0; i < n; i++) {
                takes += y.season(1);
            }
            due("season(" + n + ")", x.season(n), takes);
            due("NIGHT", x.count(0), 2 * n);
            Whole.same("season(" + n + ")", x, y);
        }
    }

    /** By z 1 the first draws are FROST 4, side 0, thing 1. */
    private static void seasonIfItMay() {
        int[][] cases = {{1, 0, 1, 1}, {0, 0, 1, 0}, {10, 0, 0, 0}, {10, 98, 1, 99}, {10, 99, 1, 99}, {1, 98, 1, 99}};
        for (int[] c : cases) {
            HedgeHeaps x = new HedgeHeaps();
            x.change(0, 1, HOME, c[0]);
            x.change(0, 1, HEAP, c[1]);
            x.side(0, TRUST, c[2]);
            x.season(1);
            due("its HEAP ahead of its night", x.book(1, 3), c[3]);
            due("FROST, though", x.now(5), 4);
            due("three draws, though", x.count(6), 662824084);
            due("NIGHT, though", x.count(0), 2);
            due("no finding", x.status(-1), 0);
        }
    }

    /** The FROST that is drawn is that of the two nights: z 1 draws 4, z 0 draws 8; in both side 0 lays one. */
    private static void seasonFrost() {
        for (int z = 0; z < 2; z++) {
            HedgeHeaps x = new HedgeHeaps();
            x.kind(3, 3);
            x.kind(4, 4);
            x.change(1, 3, HEAP, 5);
            x.change(1, 4, HEAP, 1);
            x.change(0, 4, WORTH, 0);
            x.frost(z == 0 ? 0 : 9);
            x.side(0, GREED, 50);
            x.side(1, GREED, 50);
            x.seed(z);
            due("none is taken", x.season(1), 0);
            due("FROST", x.now(5), z == 0 ? 8 : 4);
            due("meat eaten in two nights", x.count(4), z == 0 ? 0 : 4);
            // Five of meat and a fur of twice 8 or 4 for one of 5 weren't 20 more: meat is 1 or 3 at most.
            x.side(0, GREED, 20);
            due("FROST as it stands in BOOKS", x.fits(0, 3), z == 0 ? 3 : 15);
        }
    }

    private static void seed() {
        HedgeHeaps x = new HedgeHeaps();
        int[] seeds = {0, 1, -1, Integer.MAX_VALUE, Integer.MIN_VALUE};
        int was = 1;
        for (int z : seeds) {
            due("what it was", x.seed(z), was);
            was = z;
        }
        due("count(6)", x.count(6), Integer.MIN_VALUE);
    }

    // ---- texts

    private static void feed() {
        // Of "....f", the lowest bytes: the sign of the number and its higher bytes don't count.
        int[][] fed = {{0x80000000 | '6', 1}, {0xffffff00 | '6', 1}, {0x7fff2036, 2}, {0xff202036, 3}, {0x20202036, 4}};
        for (int[] f : fed) {
            HedgeHeaps x = new HedgeHeaps();
            x.feed(0x66726f73, 4);
            x.feed(0x78787874, 1);
            due("how many", x.feed(f[0], f[1]), 5 + f[1]);
            due("text", x.text(), 1);
            due("FROST", x.now(5), 6);
        }
        HedgeHeaps x = new HedgeHeaps();
        x.feed(-1, 4);
        due("255 begins no TOKEN", x.text(), -1);
        x.feed(0x20ff2020, 4);
        due("nor behind a blank", x.text(), -2);
        x.feed(0, 1);
        due("nor does 0", x.text(), -1);
    }

    private static void wipe() {
        HedgeHeaps x = new HedgeHeaps();
        due("empty", x.wipe(), 0);
        for (int i = 0; i < 30; i++) {
            x.feed(0x66726f73, 4);
        }
        due("full", x.wipe(), 120);
        due("empty again", x.wipe(), 0);
        due("there is room again", x.feed(0, 4), 4);
    }

    // ---- sheets

    private static void sheetAnew() {
        for (int bits : new int[] {8, 16, 32}) {
            HedgeHeaps x = new HedgeHeaps();
            due("40", x.sheet(0, bits, 40), 40);
            for (int i = 0; i < 40; i++) {
                x.write(0, i, 7);
            }
            due("one", x.sheet(0, bits, 1), 1);
            due("one comes", x.load(0), 1);
            due("it is 0", x.of(1, 0, WORTH), 0);
            due("40 again", x.sheet(0, bits, 40), 40);
            for (int i = 0; i < 40; i++) {
                x.copy(0, i, 0, 0, 1);
                x.change(1, 0, WORTH, 9);
                x.load(0);
                due("all are 0", x.of(1, 0, WORTH), 0);
            }
            due("none", x.sheet(0, bits, 0), 0);
            due("not MISSING", x.load(0), 0);
            due("MISSING", x.sheet(0, 0, 40), 0);
            due("MISSING", x.load(0), Check.MISSING);
            due("MISSING again", x.sheet(0, 0, 0), 0);
        }
    }

    private static HedgeHeaps oneToFive(int s) {
        HedgeHeaps x = new HedgeHeaps();
        x.sheet(s, 8, 5);
        for (int i = 0; i < 5; i++) {
            x.write(s, i, 1 + i);
        }
        return x;
    }

    private static void dueWorths(HedgeHeaps x, int s, int... want) {
        due("five come", x.load(s), 5);
        for (int t = 0; t < 5; t++) {
            due("number " + t, x.of(1, t, WORTH), want[t]);
        }
    }

    private static void copyAsTheyAllWere() {
        HedgeHeaps x = oneToFive(0);
        due("forth", x.copy(0, 0, 0, 1, 4), 4);
        dueWorths(x, 0, 1, 1, 2, 3, 4);
        x = oneToFive(1);
        due("back", x.copy(1, 1, 1, 0, 4), 4);
        dueWorths(x, 1, 2, 3, 4, 5, 5);
        x = oneToFive(2);
        due("upon themselves", x.copy(2, 0, 2, 0, 5), 5);
        dueWorths(x, 2, 1, 2, 3, 4, 5);
        x = oneToFive(3);
        due("by two", x.copy(3, 0, 3, 2, 3), 3);
        dueWorths(x, 3, 1, 2, 1, 2, 3);
        x.sheet(0, 8, 5);
        due("to another", x.copy(3, 1, 0, 4, 1), 1);
        dueWorths(x, 0, 0, 0, 0, 0, 2);
        dueWorths(x, 3, 1, 2, 1, 2, 3);
        due("none", x.copy(3, 0, 0, 0, 0), 0);
        dueWorths(x, 0, 0, 0, 0, 0, 2);
    }

    private static void copyOfBits() {
        for (int bits : new int[] {8, 16, 32}) {
            for (int others : new int[] {8, 16, 32}) {
                HedgeHeaps x = new HedgeHeaps();
                x.sheet(0, bits, 2);
                x.sheet(1, others, 3);
                x.write(0, 1, 13);
                due(bits + " to " + others, x.copy(0, 1, 1, 0, 1), bits == others ? 1 : Check.KIND);
                x.load(1);
                due("it came", x.of(1, 0, WORTH), bits == others ? 13 : 0);
            }
        }
    }

    private static void load() {
        int[][] firsts = {{0, 5}, {20, 5}, {21, 0}, {-1, 0}, {127, 0}, {-128, 0}};
        for (int[] f : firsts) {
            HedgeHeaps x = oneToFive(0);
            x.write(0, 0, f[0]);
            due("first is " + f[0], x.load(0), f[1]);
            due("WORTH for SIDE 1", x.of(1, 0, WORTH), f[1] == 0 ? 5 : f[0]);
        }
        for (int end = 0; end < 5; end++) {
            HedgeHeaps x = oneToFive(0);
            x.write(0, end, 21);
            due("it ends at " + end, x.load(0), end);
            for (int t = 0; t < 5; t++) {
                due("WORTH", x.of(1, t, WORTH), t < end ? 1 + t : 5);
                due("for SIDE 0", x.of(0, t, WORTH), 5);
            }
        }
        for (int n : new int[] {0, 1, 4, 5, 6, 40}) {
            HedgeHeaps x = new HedgeHeaps();
            x.sheet(0, 32, n);
            due("of " + n, x.load(0), Math.min(5, n));
            due("WORTH of the last that came", x.of(1, Math.max(0, Math.min(5, n) - 1), WORTH), n == 0 ? 5 : 0);
        }
    }

    private static void judge() {
        HedgeHeaps x = new HedgeHeaps();
        x.sheet(0, 8, 40);
        due("40 nights of nothing", x.judge(0), 0);
        x.write(0, 39, 1);
        due("the last doesn't", x.judge(0), 40);
        x.write(0, 0, -1);
        due("the first doesn't", x.judge(0), 1);
        x.sheet(1, 32, 0);
        due("none to be judged", x.judge(1), 0);
        x.side(0, TRUST, 0);
        x.change(0, 0, HEAP, 1);
        x.change(1, 0, HEAP, 1);
        x.change(1, 1, HEAP, 1);
        x.sheet(2, 16, 4);
        int[] done = {3, 2, 0, 2};
        for (int i = 0; i < 4; i++) {
            due("so far", x.judge(2), i == 2 ? 4 : 1 + i);
            x.write(2, i, done[i]);
        }
        due("all", x.judge(2), 0);
        x.write(2, 0, 256 + 3);
        due("16 bits of 259 aren't 3", x.judge(2), 1);
        x.write(2, 0, 65536 + 3);
        due("of 65539 they are", x.judge(2), 0);
        due("nothing goes", x.count(0), 0);
    }

    // ---- images

    private static void images() {
        HedgeHeaps x = new HedgeHeaps();
        due("nothing to tear", x.tear(), 0);
        due("image", x.image(), 1);
        x.nights(7);
        due("undo to the begin", x.undo(), 0);
        due("BOOKS, too", x.now(4), 0);
        x.nights(9);
        due("which stays", x.undo(), 0);
        x.nights(60);
        due("the latest", x.image(), 1);
        x.nights(1);
        due("undo", x.undo(), 60);
        due("undo again", x.undo(), 60);
        due("something to tear", x.tear(), 1);
        due("nothing more", x.tear(), 0);
        due("nothing to become", x.undo(), Check.NONE);
        due("NIGHT stays", x.count(0), 60);
        due("image behind tear", x.image(), 1);
        due("undo", x.undo(), 60);
        HedgeHeaps y = Whole.atNight(9999);
        y.image();
        due("the last night", y.undo(), 9999);
    }

    /** Bargains and things eaten "ever" are part of all that is kept. */
    private static void imageHoldsWhatWasEver() {
        HedgeHeaps x = new HedgeHeaps();
        x.kind(0, 1);
        x.change(1, 1, HEAP, 1);
        x.nights(1);
        x.change(0, 0, HEAP, 5);
        x.side(1, GREED, 50);
        x.nights(1);
        due("kept: one bargain, one eaten", x.image() * 100 + x.count(1) * 10 + x.count(4), 111);
        x.change(1, 1, HEAP, 9);
        x.nights(2);
        due("two bargains", x.count(1), 2);
        x.change(0, 0, HEAP, 9);
        x.nights(3);
        due("more eaten", x.count(4), 4);
        due("undo", x.undo(), 2);
        due("one bargain", x.count(1) * 10 + x.now(6), 11);
        due("one eaten", x.count(4), 1);
    }

    private static void imageHoldsAllButTapeAndSheets() {
        HedgeHeaps x = Whole.filled();
        x.image();
        for (int place = 0; place < 10; place++) {
            x.change(place / 5, place % 5, HOME, 77);
            x.change(place / 5, place % 5, HEAP, 33);
            x.change(place / 5, place % 5, WORTH, 19);
            x.hold(place, 4);
            x.kind(place % 5, 2);
        }
        x.side(0, GREED, 40);
        x.side(1, GREED, 41);
        x.side(0, TRUST, 1);
        x.side(1, TRUST, 2);
        x.seed(5);
        x.season(12);
        x.frost(8);
        due("undo", x.undo(), 5);
        HedgeHeaps y = Whole.filled();
        y.image();
        Whole.same("all becomes what was kept", x, y);
        x = Whole.filled();
        x.image();
        x.sheet(3, 32, 3);
        x.write(0, 0, 20);
        x.feed(';', 1);
        x.undo();
        y = Whole.filled();
        y.sheet(3, 32, 3);
        y.write(0, 0, 20);
        y.feed(';', 1);
        y.image();
        Whole.same("but THE TAPE and SHEETS", x, y);
    }

    /** As many things in side 0's or side 1's HEAP as the night tells, so that each NIGHT in BOOKS is another. */
    private static void goCountedNights(HedgeHeaps x, int from, int to) {
        for (int night = from; night < to; night++) {
            x.change(night % 2, 3, HEAP, 1 + night);
            x.nights(1);
            x.change(night % 2, 3, HEAP, 0);
        }
    }

    private static void imageHoldsAllBooks() {
        for (int kept : new int[] {1, 11, 12, 13, 17, 24, 25}) {
            HedgeHeaps x = new HedgeHeaps();
            x.side(0, GREED, 50);
            x.side(1, GREED, 50);
            goCountedNights(x, 0, kept);
            x.image();
            goCountedNights(x, kept + 20, kept + 33);
            due("undo", x.undo(), kept);
            int stand = Math.min(12, kept);
            due("how many", x.now(4), stand);
            for (int i = 0; i < stand; i++) {
                int night = kept - 1 - i;
                due("whose", x.book(i, 1), night % 2);
                due("its HEAP", x.book(i, 5), 1 + night);
            }
            due("no more", x.book(stand, 0), Check.NONE);
            x.nights(1);
            due("one more", x.book(0, 5), 0);
            due("the latest before", x.book(1, 5), kept);
        }
    }

    private static void count() {
        HedgeHeaps x = new HedgeHeaps();
        x.kind(0, 3);
        for (int i = 0; i < 20; i++) {
            x.change(1, 0, HEAP, 3);
            x.change(0, 1, HEAP, i % 2);
            x.nights(2);
        }
        due("bargains struck ever", x.count(1), x.now(6));
        due("20 struck", x.count(1), 20);
        x.side(0, GREED, 50);
        x.side(0, TRUST, 0);
        x.change(0, 0, HEAP, 0);
        for (int i = 0; i < 10; i++) {
            x.change(1, 0, HEAP, 3);
            due("eaten ever", x.count(4), 2 * i);
            x.side(1, TRUST, 0);
            x.nights(1);
            x.change(1, 0, HEAP, 0);
            x.nights(1);
        }
        due("NIGHT", x.count(0), 60);
        due("TRUST of both", x.count(3), 0);
        x.side(0, TRUST, 9);
        x.side(1, TRUST, 9);
        due("most TRUST of both", x.count(3), 18);
        due("no finding", x.status(-1), 0);
    }

    private static void status() {
        HedgeHeaps x = new HedgeHeaps();
        for (int which = -1; which < 7; which++) {
            due("none ever", x.status(which), 0);
        }
        for (int i = 1; i <= 200; i++) {
            x.frost(-1);
        }
        due("200 of BEYOND", x.status(0), 200);
        due("200 of all", x.status(-1), 200);
        due("another one", x.status(7), Check.BEYOND);
        due("counted from then on", x.status(0), 201);
        due("another one", x.status(-2), Check.BEYOND);
        due("counted from then on", x.status(-1), 202);
        x.image();
        x.steal(0);
        x.undo();
        due("undo() takes none back", x.status(4), 1);
        x.tear();
        x.undo();
        due("NONE", x.status(3), 1);
        due("all", x.status(-1), 204);
        due("a FAULT is none", x.text(), -1);
        due("all", x.status(-1), 204);
    }
}
