import java.util.function.Consumer;
import java.util.function.Supplier;
import java.util.function.ToIntFunction;

/**
 * FULL, KIND, NONE, STATE, MISSING and SIZE, and BEYOND where it hangs on more than one number: the first call that is
 * refused, each beside the last one that isn't; which finding is asked first; and that behind a refused call nothing
 * has changed but what status() tells.
 */
public final class RefusedTest {
    private static final int HOME = Check.HOME;
    private static final int HEAP = Check.HEAP;
    private static final int WORTH = Check.WORTH;
    private static final int MIN = Integer.MIN_VALUE;
    private static final int MAX = Integer.MAX_VALUE;

    public static void main(String[] args) {
        lay();
        back();
        less();
        steal();
        gift();
        nightsThatGo();
        nightsAhead();
        trustOfBest();
        struckAndEmpty();
        bundle();
        book();
        season();
        feed();
        as();
        sheet();
        write();
        copyOrder();
        copySizes();
        load();
        judge();
        undo();
        Check.end("RefusedTest");
    }

    /** A filled one to which that has been done. */
    private static Supplier<HedgeHeaps> filled(Consumer<HedgeHeaps> done) {
        return () -> {
            HedgeHeaps x = Whole.filled();
            done.accept(x);
            return x;
        };
    }

    private static void refused(String name, int finding, Consumer<HedgeHeaps> done, ToIntFunction<HedgeHeaps> call) {
        Whole.refused("promise " + name, filled(done), call, finding);
    }

    private static void answers(String name, int want, Consumer<HedgeHeaps> done, ToIntFunction<HedgeHeaps> call) {
        Check.due("promise " + name, call.applyAsInt(filled(done).get()), want);
    }

    private static Consumer<HedgeHeaps> homeAndHeap(int side, int thing, int home, int heap) {
        return x -> {
            x.change(side, thing, HOME, home);
            x.change(side, thing, HEAP, heap);
        };
    }

    private static void lay() {
        for (int side = 0; side < 2; side++) {
            int s = side;
            answers("10: all that is at HOME", 7, homeAndHeap(s, 4, 7, 0), x -> x.lay(s, 4, 7));
            refused("10: it hasn't so many at HOME", Check.STATE, homeAndHeap(s, 4, 7, 9), x -> x.lay(s, 4, 8));
            refused("10: it has none at HOME", Check.STATE, homeAndHeap(s, 0, 0, 9), x -> x.lay(s, 0, 1));
            refused("10: 99 of 98", Check.STATE, homeAndHeap(s, 2, 98, 0), x -> x.lay(s, 2, 99));
            answers("10: 99 of 99", 99, homeAndHeap(s, 2, 99, 0), x -> x.lay(s, 2, 99));
            answers("10: to 99", 99, homeAndHeap(s, 1, 99, 98), x -> x.lay(s, 1, 1));
            refused("10: to 100, one more", Check.STATE, homeAndHeap(s, 1, 99, 99), x -> x.lay(s, 1, 1));
            refused("10: to 100, 99 more", Check.STATE, homeAndHeap(s, 3, 99, 1), x -> x.lay(s, 3, 99));
            refused("10: to 100, half and half", Check.STATE, homeAndHeap(s, 3, 50, 50), x -> x.lay(s, 3, 50));
            answers("10: to 99, half and half", 99, homeAndHeap(s, 3, 50, 50), x -> x.lay(s, 3, 49));
            refused("10: its TRUST is 0", Check.STATE, x -> x.side(s, 1, 0), x -> x.lay(s, 0, 1));
            answers("10: its TRUST is 1", 1, homeAndHeap(s, 0, 1, 0).andThen(x -> x.side(s, 1, 1)), x -> x.lay(s, 0, 1));
            answers("10: the other's TRUST is 0", 1, homeAndHeap(s, 0, 1, 0).andThen(x -> x.side(1 - s, 1, 0)),
                x -> x.lay(s, 0, 1));
        }
    }

    private static void back() {
        for (int side = 0; side < 2; side++) {
            int s = side;
            answers("11: all that is there", 0, homeAndHeap(s, 4, 0, 7), x -> x.back(s, 4, 7));
            refused("11: there are not so many", Check.STATE, homeAndHeap(s, 4, 0, 7), x -> x.back(s, 4, 8));
            refused("11: there are none", Check.STATE, homeAndHeap(s, 0, 9, 0), x -> x.back(s, 0, 1));
            refused("11: 99 of 98", Check.STATE, homeAndHeap(s, 2, 0, 98), x -> x.back(s, 2, 99));
            answers("11: 99 of 99", 0, homeAndHeap(s, 2, 0, 99), x -> x.back(s, 2, 99));
            answers("11: to 99 at HOME", 4, homeAndHeap(s, 1, 98, 5), x -> x.back(s, 1, 1));
            refused("11: to 100 at HOME, one more", Check.STATE, homeAndHeap(s, 1, 99, 5), x -> x.back(s, 1, 1));
            refused("11: to 100 at HOME, 99 more", Check.STATE, homeAndHeap(s, 3, 1, 99), x -> x.back(s, 3, 99));
            refused("11: to 100, half and half", Check.STATE, homeAndHeap(s, 3, 50, 50), x -> x.back(s, 3, 50));
            answers("11: to 99, half and half", 1, homeAndHeap(s, 3, 50, 50), x -> x.back(s, 3, 49));
            answers("11: without TRUST", 2, homeAndHeap(s, 3, 0, 3).andThen(x -> x.side(s, 1, 0)), x -> x.back(s, 3, 1));
        }
    }

    private static void clearHeaps(HedgeHeaps x) {
        for (int place = 0; place < 10; place++) {
            x.change(place / 5, place % 5, HEAP, 0);
        }
    }

    private static void less() {
        for (int side = 0; side < 2; side++) {
            int s = side;
            Consumer<HedgeHeaps> cleared = RefusedTest::clearHeaps;
            refused("14: it DOES nothing", Check.NONE, cleared, x -> x.less(s));
            Consumer<HedgeHeaps> other = cleared.andThen(x -> x.change(1 - s, 0, HEAP, 99));
            refused("14: it TAKES for nothing", Check.NONE, other, x -> x.less(s));
            refused("14: it TAKES for one", Check.NONE, other.andThen(x -> x.change(s, 4, HEAP, 1)), x -> x.less(s));
            Consumer<HedgeHeaps> own = cleared.andThen(x -> x.change(s, 4, HEAP, 1));
            answers("14: it DOES LESS, of the last one", 4, own, x -> x.less(s));
            refused("14: it has no TRUST", Check.NONE, own.andThen(x -> x.side(s, 1, 0)), x -> x.less(s));
            answers("14: it has TRUST 1", 4, own.andThen(x -> x.side(s, 1, 1)), x -> x.less(s));
        }
    }

    private static void steal() {
        for (int side = 0; side < 2; side++) {
            int s = side;
            Consumer<HedgeHeaps> cleared = RefusedTest::clearHeaps;
            refused("15: both HEAPS are empty", Check.STATE, cleared, x -> x.steal(s));
            refused("15: that HEAP is empty", Check.STATE, cleared.andThen(x -> x.change(s, 0, HEAP, 99)), x -> x.steal(s));
            Consumer<HedgeHeaps> one = cleared.andThen(x -> x.change(1 - s, 3, HEAP, 1));
            answers("15: one is there", 5, one, x -> x.steal(s));
            answers("15: one of no WORTH", 0, one.andThen(x -> x.change(s, 3, WORTH, 0)), x -> x.steal(s));
            answers("15: without TRUST on both sides", 5, one.andThen(x -> {
                x.side(0, 1, 0);
                x.side(1, 1, 0);
            }), x -> x.steal(s));
        }
    }

    private static void gift() {
        for (int side = 0; side < 2; side++) {
            int s = side;
            refused("16: it hasn't so many", Check.STATE, homeAndHeap(s, 4, 7, 99), x -> x.gift(s, 4, 8));
            refused("16: it has none", Check.STATE, homeAndHeap(s, 0, 0, 99), x -> x.gift(s, 0, 1));
            refused("16: 99 of 98", Check.STATE, homeAndHeap(s, 2, 98, 99), x -> x.gift(s, 2, 99));
            answers("16: 99 of 99", 1, homeAndHeap(s, 2, 99, 0).andThen(x -> x.side(1 - s, 1, 0)), x -> x.gift(s, 2, 99));
            answers("16: one of one", 9, homeAndHeap(s, 2, 1, 0).andThen(x -> x.side(1 - s, 1, 8)), x -> x.gift(s, 2, 1));
        }
    }

    /** The last number of nights that may go from a night, and one more. */
    private static void edgeOfNights(String name, ToIntFunction<HedgeHeaps> call, int nights) {
        int last = Whole.LAST_NIGHT - nights;
        HedgeHeaps x = Whole.filledAt(last);
        Check.due("promise " + name + ": NIGHT", x.count(0), last);
        Check.holds("promise " + name + ": to 9999", call.applyAsInt(x) > Check.BEYOND);
        Whole.refused("promise " + name + ": to 10000", () -> Whole.filledAt(last + 1), call, Check.STATE);
    }

    private static void nightsThatGo() {
        for (int n : new int[] {1, 2, 59, 60}) {
            edgeOfNights("17 nights " + n, x -> x.nights(n), n);
        }
        for (int n : new int[] {1, 2, 11, 12}) {
            edgeOfNights("32 season " + n, x -> x.season(n), 2 * n);
        }
        HedgeHeaps x = Whole.filledAt(9998);
        Check.holds("the last night that goes", x.nights(1) >= 0 && x.count(0) == 9999);
        Check.due("it is even, and side 0's", x.book(0, 1), 0);
        Whole.refused("promise 17: 60 at the end", () -> Whole.filledAt(9999), y -> y.nights(60), Check.STATE);
        Whole.refused("promise 32: 12 at the end", () -> Whole.filledAt(9999), y -> y.season(12), Check.STATE);
    }

    private static void nightsAhead() {
        for (int what = 0; what < 5; what++) {
            int w = what;
            edgeOfNights("19 ahead 1", x -> x.ahead(1, w), 1);
            edgeOfNights("19 ahead 60", x -> x.ahead(60, w), 60);
            Check.holds("promise 19: no night ahead of 9999", Whole.filledAt(9999).ahead(0, w) > Check.BEYOND);
        }
        for (int n : new int[] {1, 30}) {
            edgeOfNights("22 best " + n, x -> x.best(0, n), n);
            edgeOfNights("22 best of 1 " + n, x -> x.best(1, n), n);
            edgeOfNights("23 gain " + n, x -> x.gain(0, n), n);
            edgeOfNights("24 greed " + n, x -> x.greed(1, n), n);
            edgeOfNights("25 kindFor " + n, x -> x.kindFor(4, n), n);
        }
        edgeOfNights("26 temptation 1", x -> x.temptation(0, 1), 1);
        edgeOfNights("26 temptation 60", x -> x.temptation(1, 60), 60);
    }

    private static void trustOfBest() {
        for (int side = 0; side < 2; side++) {
            int s = side;
            refused("22: its TRUST is 0", Check.STATE, x -> x.side(s, 1, 0), x -> x.best(s, 1));
            refused("23: its TRUST is 0", Check.STATE, x -> x.side(s, 1, 0), x -> x.gain(s, 30));
            for (int trust : new int[] {1, 9}) {
                Check.holds("promise 22: TRUST " + trust, filled(x -> x.side(s, 1, trust)).get().best(s, 1) >= 0);
                Check.holds("promise 23: TRUST " + trust, filled(x -> x.side(s, 1, trust)).get().gain(s, 1) > Check.BEYOND);
            }
            Check.holds("promise 22: the other's TRUST is 0", filled(x -> x.side(1 - s, 1, 0)).get().best(s, 1) >= 0);
            Check.holds("promise 23: the other's TRUST is 0",
                filled(x -> x.side(1 - s, 1, 0)).get().gain(s, 1) > Check.BEYOND);
            Check.holds("promise 24: without TRUST", filled(x -> x.side(s, 1, 0)).get().greed(s, 1) >= 0);
            Check.holds("promise 26: without TRUST", filled(x -> x.side(s, 1, 0)).get().temptation(s, 1) > Check.BEYOND);
        }
    }

    private static Supplier<HedgeHeaps> at(int night, Consumer<HedgeHeaps> done) {
        return () -> {
            HedgeHeaps x = Whole.filledAt(night);
            clearHeaps(x);
            done.accept(x);
            return x;
        };
    }

    private static void struckAndEmpty() {
        Consumer<HedgeHeaps> nothing = x -> { };
        Consumer<HedgeHeaps> one = x -> {
            x.change(0, 4, HEAP, 9);
            x.change(1, 4, HEAP, 9);
        };
        Whole.refused("promise 20: none in 60", at(9939, nothing), x -> x.struck(), Check.NONE);
        Whole.refused("promise 20: NIGHT is 9940", at(9940, one), x -> x.struck(), Check.STATE);
        Whole.refused("promise 20: NIGHT is 9999", at(9999, one), x -> x.struck(), Check.STATE);
        Whole.refused("promise 20: NIGHT is 9940 and none would", at(9940, nothing), x -> x.struck(), Check.STATE);
        Whole.asks("promise 21: NIGHT is 9939", at(9939, nothing), x -> x.empty(), 0);
        Whole.refused("promise 21: NIGHT is 9940, though they are empty", at(9940, nothing), x -> x.empty(), Check.STATE);
        Whole.refused("promise 21: NIGHT is 9999", at(9999, one), x -> x.empty(), Check.STATE);
        Whole.refused("promise 21: meat stays in frost", at(9939, x -> {
            x.kind(0, 0);
            x.change(0, 0, HEAP, 99);
            x.side(1, 1, 0);
        }), x -> x.empty(), Check.NONE);
        Check.due("promise 20: NIGHT is 9939, taken at once", at(9939, x -> x.change(0, 4, HEAP, 99)).get().struck(), 1);
    }

    private static void bundle() {
        Whole.refused("promise 27: all alike", HedgeHeaps::new, x -> x.bundle(), Check.NONE);
        refused("27: side 0 has nothing at HOME", Check.NONE, x -> {
            for (int t = 0; t < 5; t++) {
                x.change(0, t, HOME, 0);
            }
        }, x -> x.bundle());
        refused("27: side 1 has nothing at HOME", Check.NONE, x -> {
            for (int t = 0; t < 5; t++) {
                x.change(1, t, HOME, 0);
            }
        }, x -> x.bundle());
    }

    private static void book() {
        Whole.refused("promise 28: none stands there", HedgeHeaps::new, x -> x.book(0, 0), Check.NONE);
        for (int n : new int[] {1, 11, 12, 13, 60}) {
            Supplier<HedgeHeaps> made = () -> Whole.atNight(n);
            int last = Math.min(12, n) - 1;
            for (int w = 0; w < 7; w++) {
                int what = w;
                Check.due("promise 28: the last of them", made.get().book(last, what), what == 1 ? (n + last + 1) % 2 : 0);
                Whole.refused("promise 28: one behind", made, x -> x.book(last + 1, what), Check.NONE);
                Whole.refused("promise 28: far behind", made, x -> x.book(MAX, what), Check.NONE);
            }
        }
        refused("28: what is asked ahead of NONE", Check.BEYOND, x -> { }, x -> x.book(MAX, 7));
    }

    private static void season() {
        // A draw that can't be laid is no finding; a season that is too late draws nothing.
        Whole.refused("promise 32: nothing is drawn", () -> Whole.filledAt(9998), x -> x.season(1), Check.STATE);
        HedgeHeaps x = new HedgeHeaps();
        for (int place = 0; place < 10; place++) {
            x.change(place / 5, place % 5, HOME, 0);
        }
        Check.due("promise 32: none may lay", x.season(12), 0);
        Check.due("promise 32: no finding", x.status(-1), 0);
        Check.due("promise 32: NIGHT", x.count(0), 24);
    }

    /** THE TAPE with so many bytes, all blanks. */
    private static Supplier<HedgeHeaps> taped(int bytes) {
        return filled(x -> {
            x.wipe();
            for (int left = bytes; left > 0; left -= 4) {
                x.feed(0x20202020, Math.min(4, left));
            }
        });
    }

    private static void feed() {
        for (int n = 1; n <= 4; n++) {
            int k = n;
            Check.due("promise 34: to 120", taped(120 - n).get().feed(0, n), 120);
            Whole.refused("promise 34: to 121", taped(121 - n), x -> x.feed(-1, k), Check.FULL);
            Whole.refused("promise 34: it is full", taped(120), x -> x.feed(-1, k), Check.FULL);
        }
        Whole.refused("promise 34: n is asked ahead of FULL", taped(120), x -> x.feed(0, 5), Check.BEYOND);
        Whole.refused("promise 34: n is asked ahead of FULL", taped(120), x -> x.feed(0, 0), Check.BEYOND);
    }

    private static void as() {
        int[][] under = {{}, {0}, {0}, {1, 0}, {2, 0}, {0}, {5, 0}};
        for (int kind = 0; kind < 7; kind++) {
            for (int top = 0; top < 7; top++) {
                int k = kind;
                int t = top;
                boolean is = k == t;
                for (int above : under[k]) {
                    is |= above == t;
                }
                Consumer<HedgeHeaps> held = x -> {
                    x.kind(3, k);
                    x.hold(0, 3);
                };
                if (is) {
                    answers("38: kind " + k + " as " + t, 3, held, x -> x.as(0, t));
                } else {
                    refused("38: kind " + k + " as " + t, Check.KIND, held, x -> x.as(0, t));
                }
            }
        }
        refused("38: it holds nothing", Check.MISSING, x -> { }, x -> x.as(0, 0));
        refused("38: it holds nothing more", Check.MISSING, x -> x.hold(2, -1), x -> x.as(2, 6));
        refused("38: the kind is asked ahead of MISSING", Check.BEYOND, x -> { }, x -> x.as(0, 7));
    }

    private static void sheet() {
        for (int bits : new int[] {0, 8, 16, 32}) {
            refused("39: n is -1", Check.SIZE, x -> { }, x -> x.sheet(1, bits, -1));
            refused("39: n is least", Check.SIZE, x -> { }, x -> x.sheet(3, bits, MIN));
            refused("39: n is 41", Check.BEYOND, x -> { }, x -> x.sheet(1, bits, 41));
            refused("39: n is most", Check.BEYOND, x -> { }, x -> x.sheet(3, bits, MAX));
            answers("39: n is 0", 0, x -> { }, x -> x.sheet(1, bits, 0));
            answers("39: n is 40", bits == 0 ? 0 : 40, x -> { }, x -> x.sheet(3, bits, 40));
            refused("39: no such sheet ahead of SIZE", Check.BEYOND, x -> { }, x -> x.sheet(4, bits, -1));
        }
        refused("39: other bits ahead of SIZE", Check.BEYOND, x -> { }, x -> x.sheet(1, 64, -1));
    }

    private static void write() {
        refused("40: no such sheet", Check.BEYOND, x -> { }, x -> x.write(4, 0, 1));
        for (int i : new int[] {MIN, -1, 0, 40, MAX}) {
            refused("40: MISSING ahead of the number", Check.MISSING, x -> { }, x -> x.write(3, i, 1));
            refused("40: a sheet of none", Check.BEYOND, x -> { }, x -> x.write(2, i, 1));
        }
        for (int i : new int[] {MIN, -1, 4, 5, 39, MAX}) {
            refused("40: no such number of 4", Check.BEYOND, x -> { }, x -> x.write(0, i, 1));
        }
        for (int i : new int[] {MIN, -1, 40, 41, MAX}) {
            refused("40: no such number of 40", Check.BEYOND, x -> { }, x -> x.write(1, i, 1));
        }
        answers("40: the first", 1, x -> { }, x -> x.write(0, 0, 1));
        answers("40: the last of 4", 1, x -> { }, x -> x.write(0, 3, 1));
        answers("40: the last of 40", 1, x -> { }, x -> x.write(1, 39, 1));
    }

    /** No such sheet is asked first, then MISSING, then KIND, then whether they have so many. */
    private static void copyOrder() {
        int[] wrong = {MIN, -1, 4, MAX};
        for (int s : wrong) {
            refused("41: no such first", Check.BEYOND, x -> { }, x -> x.copy(s, -1, 3, -1, -1));
            refused("41: no such second", Check.BEYOND, x -> { }, x -> x.copy(3, -1, s, -1, -1));
        }
        for (int n : new int[] {-1, 0, 41}) {
            refused("41: the first is MISSING", Check.MISSING, x -> { }, x -> x.copy(3, n, 0, n, n));
            refused("41: the second is MISSING", Check.MISSING, x -> { }, x -> x.copy(0, n, 3, n, n));
            refused("41: both are MISSING", Check.MISSING, x -> { }, x -> x.copy(3, n, 3, n, n));
            refused("41: 8 to 16 bits", Check.KIND, x -> { }, x -> x.copy(0, n, 1, n, n));
            refused("41: 16 to 32 bits", Check.KIND, x -> { }, x -> x.copy(1, n, 2, n, n));
            refused("41: 32 to 8 bits", Check.KIND, x -> { }, x -> x.copy(2, n, 0, n, n));
        }
    }

    /** From sheet 0 of 4 numbers to sheet 3, which has 6. */
    private static void copySizes() {
        Consumer<HedgeHeaps> six = x -> x.sheet(3, 8, 6);
        int[][] beyond = {{-1, 0, 1}, {0, -1, 1}, {0, 0, -1}, {-1, 0, 0}, {0, -1, 0}, {0, 0, 5}, {1, 0, 4}, {4, 0, 1},
            {5, 0, 0}, {0, 3, 4}, {0, 6, 1}, {0, 7, 0}, {3, 5, 2}, {MAX, 0, 1}, {0, MAX, 1}, {0, 0, MAX}, {1, 0, MAX},
            {0, 1, MAX}, {MAX, MAX, MAX}, {MIN, 0, 1}, {0, MIN, 1}, {0, 0, MIN}, {MIN, MIN, MIN}, {4, 0, MIN},
            {5, 5, -1}, {-1, -1, 2}};
        for (int[] b : beyond) {
            refused("41: " + b[0] + ", " + b[1] + ", " + b[2], Check.BEYOND, six, x -> x.copy(0, b[0], 3, b[1], b[2]));
        }
        int[][] allowed = {{0, 0, 4}, {0, 2, 4}, {3, 5, 1}, {4, 6, 0}, {0, 0, 0}, {4, 0, 0}, {0, 6, 0}, {1, 3, 3}};
        for (int[] a : allowed) {
            answers("41: " + a[0] + ", " + a[1], a[2], six, x -> x.copy(0, a[0], 3, a[1], a[2]));
        }
        refused("41: the second has not so many", Check.BEYOND, six, x -> x.copy(3, 0, 0, 0, 5));
        answers("41: all 40 upon themselves", 40, six, x -> x.copy(1, 0, 1, 0, 40));
        refused("41: 41 upon themselves", Check.BEYOND, six, x -> x.copy(1, 0, 1, 0, 41));
        answers("41: none of none", 0, six, x -> x.copy(2, 0, 2, 0, 0));
        refused("41: one of none", Check.BEYOND, six, x -> x.copy(2, 0, 2, 0, 1));
    }

    private static void load() {
        refused("42: MISSING", Check.MISSING, x -> { }, x -> x.load(3));
        refused("42: MISSING again", Check.MISSING, x -> x.sheet(0, 0, 4), x -> x.load(0));
        answers("42: a sheet of none", 0, x -> { }, x -> x.load(2));
    }

    private static void judge() {
        refused("43: MISSING", Check.MISSING, x -> { }, x -> x.judge(3));
        Whole.refused("promise 43: MISSING ahead of STATE", () -> Whole.filledAt(9999), x -> x.judge(3), Check.MISSING);
        Whole.refused("promise 43: no such ahead of STATE", () -> Whole.filledAt(9999), x -> x.judge(4), Check.BEYOND);
        edgeOfNights("43 of 40", x -> x.judge(1), 40);
        edgeOfNights("43 of 4", x -> x.judge(0), 4);
        Whole.asks("promise 43: none to be judged", () -> Whole.filledAt(9999), x -> x.judge(2), 0);
    }

    private static void undo() {
        Whole.refused("promise 45: nothing is kept", HedgeHeaps::new, x -> x.undo(), Check.NONE);
        refused("45: nothing is kept any more", Check.NONE, x -> x.tear(), x -> x.undo());
        answers("45: the image", 2, x -> { }, x -> x.undo());
    }
}
