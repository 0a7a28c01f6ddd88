/**
 * What looks AHEAD or back against doing it: random borders, each asked for by a seed, so that the same one can be
 * had again as often as needed. PRICES are counted here in a way of their own.
 */
public final class AheadTest {
    private static final int BORDERS = 600;

    public static void main(String[] args) {
        for (int seed = 0; seed < BORDERS; seed++) {
            pricesAndDeeds(seed);
            nightsAhead(seed);
            firstNights(seed);
            judged(seed);
            heapsToLay(seed);
            greedsAndKinds(seed);
            temptations(seed);
            bundles(seed);
            booksFit(seed);
        }
        Check.end("AheadTest");
    }

    /** The random border of that seed, some of its kinds, numbers and nights unlike at first. */
    private static HedgeHeaps border(int seed) {
        HedgeHeaps x = new HedgeHeaps();
        Dice dice = new Dice(seed * 31 + 7);
        x.frost(dice.next(10));
        for (int t = 0; t < 5; t++) {
            x.kind(t, dice.next(7));
        }
        int most = 1 + dice.next(12);
        for (int place = 0; place < 10; place++) {
            x.change(place / 5, place % 5, Check.HOME, dice.next(3) == 0 ? 0 : dice.next(30));
            x.change(place / 5, place % 5, Check.HEAP, dice.next(2) == 0 ? 0 : dice.next(most));
            x.change(place / 5, place % 5, Check.WORTH, dice.next(21));
        }
        if (dice.next(4) == 0) {
            x.change(dice.next(2), dice.next(5), Check.HOME, 97 + dice.next(3));
        }
        for (int side = 0; side < 2; side++) {
            x.side(side, 0, dice.next(dice.next(2) == 0 ? 51 : 8));
            x.side(side, 1, dice.next(10));
        }
        if (dice.next(2) == 0) {
            x.nights(1);
        }
        return x;
    }

    private static int kindOf(HedgeHeaps x, int thing) {
        int kind = x.kind(thing, 0);
        x.kind(thing, kind);
        return kind;
    }

    private static boolean isUnder(int kind, int top) {
        int[] above = {-1, 0, 0, 1, 2, 0, 5};
        return kind == top || (kind > 0 && isUnder(above[kind], top));
    }

    private static int priceByHand(HedgeHeaps x, int side, int thing, int n) {
        int kind = kindOf(x, thing);
        int worth = x.of(side, thing, Check.WORTH);
        int frost = x.now(5);
        int price = 0;
        for (int i = 0; i < n; i++) {
            price += isUnder(kind, 5) && i > 0 ? worth / 2 : worth;
            price += isUnder(kind, 2) ? frost : 0;
            price += isUnder(kind, 4) ? frost : 0;
            price += isUnder(kind, 6) && i == 0 ? 3 : 0;
        }
        return price;
    }

    private static int wealth(HedgeHeaps x, int side) {
        int sum = 0;
        for (int t = 0; t < 5; t++) {
            sum += priceByHand(x, side, t, x.of(side, t, Check.HOME) + x.of(side, t, Check.HEAP));
        }
        return sum;
    }

    private static int heapValue(HedgeHeaps x, int side, int heap) {
        int sum = 0;
        for (int t = 0; t < 5; t++) {
            sum += priceByHand(x, side, t, x.of(heap, t, Check.HEAP));
        }
        return sum;
    }

    private static int things(HedgeHeaps x) {
        return x.now(1) + x.now(2);
    }

    private static void pricesAndDeeds(int seed) {
        HedgeHeaps x = border(seed);
        for (int side = 0; side < 2; side++) {
            for (int heap = 0; heap < 2; heap++) {
                Check.due(seed + ": value", x.value(side, heap), heapValue(x, side, heap));
            }
            Check.due(seed + ": price", x.price(side, seed % 5, seed % 100), priceByHand(x, side, seed % 5, seed % 100));
            int trust = x.side(side, 1, 5);
            x.side(side, 1, trust);
            int greed = x.side(side, 0, 0);
            x.side(side, 0, greed);
            boolean content = x.now(2 - side) > 0 && heapValue(x, side, 1 - side) >= heapValue(x, side, side) + greed;
            int own = x.now(1 + side);
            int deed = trust == 0 ? (own > 0 ? 3 : 0) : content ? 1 : own > 0 ? 2 : 0;
            Check.due(seed + ": content", x.content(side), content ? 1 : 0);
            Check.due(seed + ": does", x.does(side), deed);
            Check.due(seed + ": less", x.less(side), deed == 2 ? dearestByHand(x, side) : Check.NONE);
        }
    }

    private static int dearestByHand(HedgeHeaps x, int side) {
        int dearest = -1;
        int most = -1;
        for (int t = 4; t >= 0; t--) {
            int n = x.of(side, t, Check.HEAP);
            int last = n == 0 ? -2 : priceByHand(x, side, t, n) - priceByHand(x, side, t, n - 1);
            if (last >= most) {
                dearest = t;
                most = last;
            }
        }
        return dearest;
    }

    private static void nightsAhead(int seed) {
        int n = seed % 61;
        HedgeHeaps x = border(seed);
        HedgeHeaps y = border(seed);
        int[] before = {wealth(y, 0), wealth(y, 1)};
        int ateBefore = y.count(4);
        int takes = n == 0 ? 0 : y.nights(n);
        Check.due(seed + ": takes", x.ahead(n, 0), takes);
        Check.due(seed + ": things", x.ahead(n, 1), things(y));
        Check.due(seed + ": eaten", x.ahead(n, 2), y.count(4) - ateBefore);
        Check.due(seed + ": more 0", x.ahead(n, 3), wealth(y, 0) - before[0]);
        Check.due(seed + ": more 1", x.ahead(n, 4), wealth(y, 1) - before[1]);
    }

    private static void firstNights(int seed) {
        HedgeHeaps x = border(seed);
        HedgeHeaps y = border(seed);
        int struck = Check.NONE;
        int empty = things(y) == 0 ? 0 : Check.NONE;
        for (int n = 1; n <= 60; n++) {
            if (y.nights(1) == 1 && struck == Check.NONE) {
                struck = n;
            }
            if (things(y) == 0 && empty == Check.NONE) {
                empty = n;
            }
        }
        Check.due(seed + ": struck", x.struck(), struck);
        Check.due(seed + ": empty", x.empty(), empty);
    }

    private static void judged(int seed) {
        HedgeHeaps x = border(seed);
        HedgeHeaps y = border(seed);
        int n = 1 + seed % 40;
        x.sheet(1, 16, n);
        for (int i = 0; i < n; i++) {
            y.nights(1);
            x.write(1, i, y.book(0, 0));
        }
        Check.due(seed + ": all are so", x.judge(1), 0);
        int wrong = (seed * 7) % n;
        x.write(1, wrong, 4);
        Check.due(seed + ": one isn't", x.judge(1), 1 + wrong);
    }

    private static void heapsToLay(int seed) {
        int side = seed % 2;
        int n = 1 + seed % 30;
        HedgeHeaps x = border(seed);
        int best = -1;
        int most = 0;
        for (int heap = 0; heap < 64; heap++) {
            HedgeHeaps y = border(seed);
            int before = wealth(y, side);
            for (int t = 0; t < 5; t++) {
                int all = y.of(side, t, Check.HOME) + y.of(side, t, Check.HEAP);
                y.change(side, t, Check.HOME, Math.min(99, all));
                y.change(side, t, Check.HEAP, 0);
            }
            boolean laid = true;
            for (int t = 0; t < 3; t++) {
                int k = heap >> 2 * t & 3;
                laid &= k == 0 || y.lay(side, t, k) == k;
            }
            if (laid) {
                y.nights(n);
                if (best < 0 || wealth(y, side) - before > most) {
                    best = heap;
                    most = wealth(y, side) - before;
                }
            }
        }
        int trust = x.side(side, 1, 0);
        x.side(side, 1, trust);
        Check.due(seed + ": best", x.best(side, n), trust == 0 ? Check.STATE : best);
        Check.due(seed + ": gain", x.gain(side, n), trust == 0 ? Check.STATE : most);
    }

    private static void greedsAndKinds(int seed) {
        int side = seed % 2;
        int n = 1 + seed % 30;
        int bestGreed = 0;
        int most = Integer.MIN_VALUE;
        for (int g = 0; g <= 50; g++) {
            HedgeHeaps y = border(seed);
            y.side(side, 0, g);
            int before = wealth(y, side);
            y.nights(n);
            if (wealth(y, side) - before > most) {
                most = wealth(y, side) - before;
                bestGreed = g;
            }
        }
        Check.due(seed + ": greed", border(seed).greed(side, n), bestGreed);
        int thing = seed % 5;
        int bestKind = 0;
        most = Integer.MIN_VALUE;
        for (int k = 0; k < 7; k++) {
            HedgeHeaps y = border(seed);
            y.kind(thing, k);
            int before = wealth(y, 0) + wealth(y, 1);
            y.nights(n);
            if (wealth(y, 0) + wealth(y, 1) - before > most) {
                most = wealth(y, 0) + wealth(y, 1) - before;
                bestKind = k;
            }
        }
        Check.due(seed + ": kindFor", border(seed).kindFor(thing, n), bestKind);
    }

    private static void temptations(int seed) {
        int side = seed / 2 % 2;
        int n = 1 + seed % 60;
        HedgeHeaps x = border(seed);
        HedgeHeaps thief = border(seed);
        HedgeHeaps honest = border(seed);
        int loot = heapValue(thief, side, 1 - side);
        Check.due(seed + ": steal", thief.steal(side), x.now(2 - side) == 0 ? Check.STATE : loot);
        honest.nights(n);
        Check.due(seed + ": temptation", x.temptation(side, n), wealth(thief, side) - wealth(honest, side));
    }

    private static void bundles(int seed) {
        HedgeHeaps x = border(seed);
        int best = Check.NONE;
        int most = 0;
        for (int code = 44; code >= 0; code--) {
            int a = code / 10;
            int b = code % 10;
            if (b < 5 && a != b && x.of(0, a, Check.HOME) > 0 && x.of(1, b, Check.HOME) > 0) {
                int gain0 = priceByHand(x, 0, b, 1) - priceByHand(x, 0, a, 1);
                int gain1 = priceByHand(x, 1, a, 1) - priceByHand(x, 1, b, 1);
                if (gain0 > 0 && gain1 > 0 && gain0 + gain1 >= most) {
                    best = code;
                    most = gain0 + gain1;
                }
            }
        }
        Check.due(seed + ": bundle", x.bundle(), best);
    }

    /** Some nights with changes between them, each kept as it was ahead of it; then what fits them all. */
    private static void booksFit(int seed) {
        HedgeHeaps x = border(seed);
        Dice dice = new Dice(seed + 100000);
        // A night of border() itself isn't kept here: then let so many go that it is no longer in the books.
        int nights = x.now(0) == 0 ? 1 + dice.next(20) : 12 + dice.next(8);
        int[][] kept = new int[nights][];
        for (int i = 0; i < nights; i++) {
            if (dice.next(3) > 0) {
                x.change(dice.next(2), dice.next(5), Check.HEAP, dice.next(5));
                x.frost(dice.next(10));
                x.side(dice.next(2), 1, dice.next(4));
            }
            kept[i] = snapshot(x);
            x.nights(1);
            kept[i][13] = x.book(0, 0);
        }
        int side = dice.next(2);
        int thing = dice.next(5);
        int[] mind = mind(x, side);
        int set = 0;
        for (int w = 0; w <= 20; w++) {
            HedgeHeaps y = minded(mind, side);
            y.change(side, thing, Check.WORTH, w);
            set |= fitsAll(y, side, kept) ? 1 << w : 0;
        }
        Check.due(seed + ": fits", x.fits(side, thing), set);
        set = 0;
        for (int g = 0; g <= 30; g++) {
            HedgeHeaps y = minded(mind, side);
            y.side(side, 0, g);
            set |= fitsAll(y, side, kept) ? 1 << g : 0;
        }
        Check.due(seed + ": greeds", x.greeds(side), set);
        int known = 0;
        for (int t = 1; t < 5; t++) {
            if (Integer.bitCount(x.fits(side, t)) < Integer.bitCount(x.fits(side, known))) {
                known = t;
            }
        }
        Check.due(seed + ": known", x.known(side), known);
    }

    /** Both HEAPS, FROST, the TRUST of the one whose NIGHT it is, that one; room for what it did. */
    private static int[] snapshot(HedgeHeaps x) {
        int[] s = new int[14];
        for (int place = 0; place < 10; place++) {
            s[place] = x.of(place / 5, place % 5, Check.HEAP);
        }
        s[10] = x.now(5);
        s[12] = x.now(0) % 2;
        s[11] = x.side(s[12], 1, 0);
        x.side(s[12], 1, s[11]);
        return s;
    }

    /** The KINDS that x has, and WORTHS and GREED of a side. */
    private static int[] mind(HedgeHeaps x, int side) {
        int[] m = new int[11];
        for (int t = 0; t < 5; t++) {
            m[t] = kindOf(x, t);
            m[5 + t] = x.of(side, t, Check.WORTH);
        }
        m[10] = x.side(side, 0, 0);
        x.side(side, 0, m[10]);
        return m;
    }

    /** A new one of which that side is so minded. */
    private static HedgeHeaps minded(int[] mind, int side) {
        HedgeHeaps y = new HedgeHeaps();
        for (int t = 0; t < 5; t++) {
            y.kind(t, mind[t]);
            y.change(side, t, Check.WORTH, mind[5 + t]);
        }
        y.side(side, 0, mind[10]);
        return y;
    }

    /** Whether a side would have done in all nights that are still in books what it did. */
    private static boolean fitsAll(HedgeHeaps y, int side, int[][] kept) {
        boolean fits = true;
        for (int i = Math.max(0, kept.length - 12); i < kept.length; i++) {
            if (kept[i][12] == side && kept[i][11] > 0) {
                setHeaps(y, kept[i]);
                fits &= y.does(side) == kept[i][13];
            }
        }
        return fits;
    }

    private static void setHeaps(HedgeHeaps x, int[] s) {
        for (int place = 0; place < 10; place++) {
            x.change(place / 5, place % 5, Check.HEAP, s[place]);
        }
        x.frost(s[10]);
    }
}
