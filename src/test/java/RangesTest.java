import java.util.Arrays;
import java.util.function.Supplier;

/**
 * BEYOND: for each call and each of its numbers the last one that is allowed and the first that isn't, at both ends,
 * in an object in which much stands, in a new one, and in one where each call could answer another finding, too
 * (BEYOND is asked first). Behind each refused call nothing has changed but what status() tells.
 */
public final class RangesTest {
    private static final int MIN = Integer.MIN_VALUE;
    private static final int MAX = Integer.MAX_VALUE;

    private interface Call {
        int on(HedgeHeaps x, int[] a);
    }

    public static void main(String[] args) {
        rangesOfThings();
        rangesOfHeaps();
        rangesOfNights();
        rangesOfTheRest();
        severalAreOneFinding();
        Check.end("RangesTest");
    }

    private static void rangesOfThings() {
        range("2 kind", (x, a) -> x.kind(a[0], a[1]), 0, 4, 0, 6);
        range("3 of", (x, a) -> x.of(a[0], a[1], a[2]), 0, 1, 0, 4, 0, 2);
        range("4 change what", (x, a) -> x.change(a[0], a[1], a[2], 20), 0, 1, 0, 4, 0, 2);
        range("4 change HOME", (x, a) -> x.change(a[0], a[1], 0, a[2]), 0, 1, 0, 4, 0, 99);
        range("4 change HEAP", (x, a) -> x.change(a[0], a[1], 1, a[2]), 0, 1, 0, 4, 0, 99);
        range("4 change WORTH", (x, a) -> x.change(a[0], a[1], 2, a[2]), 0, 1, 0, 4, 0, 20);
        range("5 side what", (x, a) -> x.side(a[0], a[1], 9), 0, 1, 0, 1);
        range("5 side GREED", (x, a) -> x.side(a[0], 0, a[1]), 0, 1, 0, 50);
        range("5 side TRUST", (x, a) -> x.side(a[0], 1, a[1]), 0, 1, 0, 9);
        range("6 frost", (x, a) -> x.frost(a[0]), 0, 9);
        range("7 price", (x, a) -> x.price(a[0], a[1], a[2]), 0, 1, 0, 4, 0, 99);
        range("8 value", (x, a) -> x.value(a[0], a[1]), 0, 1, 0, 1);
        range("9 eaten", (x, a) -> x.eaten(a[0], a[1]), 0, 4, 0, 99);
    }

    private static void rangesOfHeaps() {
        range("10 lay", (x, a) -> x.lay(a[0], a[1], a[2]), 0, 1, 0, 4, 1, 99);
        range("11 back", (x, a) -> x.back(a[0], a[1], a[2]), 0, 1, 0, 4, 1, 99);
        range("12 content", (x, a) -> x.content(a[0]), 0, 1);
        range("13 does", (x, a) -> x.does(a[0]), 0, 1);
        range("14 less", (x, a) -> x.less(a[0]), 0, 1);
        range("15 steal", (x, a) -> x.steal(a[0]), 0, 1);
        range("16 gift", (x, a) -> x.gift(a[0], a[1], a[2]), 0, 1, 0, 4, 1, 99);
    }

    private static void rangesOfNights() {
        range("17 nights", (x, a) -> x.nights(a[0]), 1, 60);
        range("18 now", (x, a) -> x.now(a[0]), 0, 6);
        range("19 ahead", (x, a) -> x.ahead(a[0], a[1]), 0, 60, 0, 4);
        range("22 best", (x, a) -> x.best(a[0], a[1]), 0, 1, 1, 30);
        range("23 gain", (x, a) -> x.gain(a[0], a[1]), 0, 1, 1, 30);
        range("24 greed", (x, a) -> x.greed(a[0], a[1]), 0, 1, 1, 30);
        range("25 kindFor", (x, a) -> x.kindFor(a[0], a[1]), 0, 4, 1, 30);
        range("26 temptation", (x, a) -> x.temptation(a[0], a[1]), 0, 1, 1, 60);
        range("28 book", (x, a) -> x.book(a[0], a[1]), 0, MAX, 0, 6);
        range("29 fits", (x, a) -> x.fits(a[0], a[1]), 0, 1, 0, 4);
        range("30 greeds", (x, a) -> x.greeds(a[0]), 0, 1);
        range("31 known", (x, a) -> x.known(a[0]), 0, 1);
        range("32 season", (x, a) -> x.season(a[0]), 1, 12);
    }

    private static void rangesOfTheRest() {
        range("34 feed", (x, a) -> x.feed(MIN, a[0]), 1, 4);
        range("37 hold", (x, a) -> x.hold(a[0], a[1]), 0, 9, -1, 4);
        range("38 as", (x, a) -> x.as(a[0], a[1]), 0, 9, 0, 6);
        range("39 sheet to be made", (x, a) -> x.sheet(a[0], 16, 40), 0, 3);
        range("39 sheet to be MISSING", (x, a) -> x.sheet(a[0], 0, 0), 0, 3);
        range("39 sheet of a wrong size", (x, a) -> x.sheet(a[0], 8, -1), 0, 3);
        for (int bits : new int[] {MIN, -32, -16, -8, -1, 1, 7, 9, 15, 17, 24, 31, 33, 64, 256, MAX}) {
            for (int n : new int[] {-1, 0, 40, 41}) {
                everywhere("39 sheet of " + bits + " bits", (x, a) -> x.sheet(2, bits, n), new int[0]);
            }
        }
        for (int bits : new int[] {0, 8, 16, 32}) {
            for (int n : new int[] {41, 42, MAX}) {
                everywhere("39 sheet of " + n, (x, a) -> x.sheet(0, bits, n), new int[0]);
            }
        }
        // Which sheets can be written: EdgesTest. Here only that others can't.
        beyondAt("40 write", (x, a) -> x.write(a[0], 0, 7), new int[1], 0, 0, 3);
        range("41 copy", (x, a) -> x.copy(a[0], 0, a[1], 0, 0), 0, 3, 0, 3);
        range("42 load", (x, a) -> x.load(a[0]), 0, 3);
        range("43 judge", (x, a) -> x.judge(a[0]), 0, 3);
        range("47 count", (x, a) -> x.count(a[0]), 0, 7);
        range("48 status", (x, a) -> x.status(a[0]), -1, 6);
    }

    /** Several wrong numbers are one finding. */
    private static void severalAreOneFinding() {
        everywhere("4 all wrong", (x, a) -> x.change(2, 5, 3, 100), new int[0]);
        everywhere("10 all wrong", (x, a) -> x.lay(-1, -1, 0), new int[0]);
        everywhere("22 all wrong", (x, a) -> x.best(-1, 31), new int[0]);
        everywhere("28 all wrong", (x, a) -> x.book(-1, 7), new int[0]);
        everywhere("41 all wrong", (x, a) -> x.copy(-1, -1, 4, -1, -1), new int[0]);
    }

    /** The least and the most of each number are allowed; what lies beyond isn't. */
    private static void range(String name, Call call, int... ends) {
        int numbers = ends.length / 2;
        for (int corner = 0; corner < 1 << numbers; corner++) {
            int[] a = new int[numbers];
            for (int i = 0; i < numbers; i++) {
                a[i] = ends[2 * i + (corner >> i & 1)];
            }
            allowed(name, call, a, Whole::filled);
            allowed(name, call, a, HedgeHeaps::new);
            allowed(name, call, a, Whole::bare);
            for (int i = 0; i < numbers; i++) {
                beyondAt(name, call, a, i, ends[2 * i], ends[2 * i + 1]);
            }
        }
    }

    private static void allowed(String name, Call call, int[] a, Supplier<HedgeHeaps> made) {
        Check.holds("promise " + name + " " + Arrays.toString(a) + " is allowed",
            call.on(made.get(), a) != Check.BEYOND);
    }

    private static void beyondAt(String name, Call call, int[] corner, int i, int least, int most) {
        int[] wrong = {least - 1, MIN, most == MAX ? MIN : most + 1, most == MAX ? MIN : MAX};
        for (int v : wrong) {
            int[] a = corner.clone();
            a[i] = v;
            everywhere(name, call, a);
        }
    }

    private static void everywhere(String name, Call call, int[] a) {
        String told = "promise " + name + " " + Arrays.toString(a);
        Whole.refused(told + " of a filled one", Whole::filled, x -> call.on(x, a), Check.BEYOND);
        Whole.refused(told + " of a new one", HedgeHeaps::new, x -> call.on(x, a), Check.BEYOND);
        Whole.refused(told + " of a bare one", Whole::bare, x -> call.on(x, a), Check.BEYOND);
    }
}
