import java.lang.reflect.InvocationTargetException;
import java.lang.reflect.Method;
import java.util.Arrays;

/**
 * Long runs of calls to the class and to the document written down once more (ByHand), each answer against the other:
 * numbers mostly as they may be, often at their ends, now and then beyond them; from a new object on, and from one
 * that has few or many things, little trust or greed, or is late. At the end all that can be seen is held together.
 */
public final class ByHandTest {
    private static final int RUNS = 900;
    /** So that callAll() still finds room below 512 calls. */
    private static final int CALLS = 350;
    private static final int MIN = Integer.MIN_VALUE;
    private static final int MAX = Integer.MAX_VALUE;
    private static final int[] WILD = {MIN, MIN + 1, -1000001, -60, -2, -1, 0, 1, 2, 5, 7, 9, 10, 20, 21, 31, 40, 41, 50,
        51, 60, 61, 99, 100, MAX - 1, MAX};

    /** Each call, and from which number to which each of its numbers mostly is; those named twice come oftener. */
    private static final Object[][] CALLS_AND_RANGES = {
        {"kind", 0, 4, 0, 6}, {"of", 0, 1, 0, 4, 0, 2}, {"change", 0, 1, 0, 4, 0, 1, 0, 9}, {"change", 0, 1, 0, 4, 0, 1, 90, 99},
        {"change", 0, 1, 0, 4, 2, 2, 0, 20}, {"side", 0, 1, 0, 0, 0, 50}, {"side", 0, 1, 1, 1, 0, 9},
        {"side", 0, 1, 0, 0, 0, 4}, {"frost", 0, 9}, {"price", 0, 1, 0, 4, 0, 99}, {"value", 0, 1, 0, 1},
        {"eaten", 0, 4, 0, 99}, {"lay", 0, 1, 0, 4, 1, 5}, {"lay", 0, 1, 0, 4, 1, 99}, {"back", 0, 1, 0, 4, 1, 5},
        {"content", 0, 1}, {"does", 0, 1}, {"less", 0, 1}, {"steal", 0, 1}, {"gift", 0, 1, 0, 4, 1, 12},
        {"nights", 1, 3}, {"nights", 1, 60}, {"now", 0, 6}, {"ahead", 0, 60, 0, 4}, {"struck"}, {"empty"},
        {"best", 0, 1, 1, 30}, {"gain", 0, 1, 1, 30}, {"greed", 0, 1, 1, 30}, {"kindFor", 0, 4, 1, 30},
        {"temptation", 0, 1, 1, 60}, {"bundle"}, {"book", 0, 12, 0, 6}, {"fits", 0, 1, 0, 4}, {"greeds", 0, 1},
        {"known", 0, 1}, {"season", 1, 12}, {"seed", MIN / 2, MAX / 2}, {"feed", MIN / 2, MAX / 2, 1, 4}, {"wipe"},
        {"text"}, {"hold", 0, 9, -1, 4}, {"as", 0, 9, 0, 6}, {"sheet", 0, 3, 8, 8, 0, 40}, {"sheet", 0, 3, 16, 16, 0, 6},
        {"sheet", 0, 1, 0, 0, 0, 40}, {"write", 0, 3, 0, 5, 0, 3}, {"write", 0, 3, 0, 40, -300, 70000},
        {"copy", 0, 3, 0, 5, 0, 3, 0, 5, 0, 5}, {"load", 0, 3}, {"judge", 0, 3}, {"image"}, {"undo"}, {"tear"},
        {"count", 0, 7}, {"status", -1, 6}};

    private final HedgeHeaps x = new HedgeHeaps();
    private final ByHand y = new ByHand();
    private final Dice dice;
    private final String name;
    private int calls = 0;

    private ByHandTest(int run) {
        dice = new Dice(run * 7919 + 1);
        name = "run " + run;
    }

    public static void main(String[] args) {
        for (int run = 0; run < RUNS; run++) {
            ByHandTest test = new ByHandTest(run);
            test.start(run % 5);
            while (test.calls < CALLS) {
                test.callSomething();
            }
            test.callAll();
            Check.holds("not too many calls", test.calls <= 512);
        }
        Check.end("ByHandTest");
    }

    /** As at first; full; nearly nothing; much dealt with before; late. */
    private void start(int how) {
        for (int place = 0; place < 10 && how != 0; place++) {
            int few = how == 1 ? 97 + dice.next(3) : how == 2 ? dice.next(2) : dice.next(20);
            same("change", place / 5, place % 5, 0, few);
            same("change", place / 5, place % 5, 1, how == 1 ? 98 + dice.next(2) : how == 2 ? dice.next(2) : dice.next(9));
            same("change", place / 5, place % 5, 2, dice.next(21));
            same("kind", place % 5, dice.next(7));
        }
        int[] last = {9999, 9998, 9969, 9939, 9940, 9970};
        int night = how == 4 ? last[dice.next(last.length)] : how == 3 ? dice.next(40) : 0;
        for (int left = night; left > 0; left -= 60) {
            same("nights", Math.min(60, left));
        }
    }

    private void callSomething() {
        if (dice.next(12) == 0) {
            tellSomething();
            return;
        }
        Object[] row = CALLS_AND_RANGES[dice.next(CALLS_AND_RANGES.length)];
        int[] a = new int[row.length / 2];
        for (int i = 0; i < a.length; i++) {
            int least = (Integer) row[1 + 2 * i];
            int most = (Integer) row[2 + 2 * i];
            int sort = dice.next(40);
            a[i] = sort == 0 ? WILD[dice.next(WILD.length)] : sort == 1 ? least - 1 : sort == 2 ? most + 1
                : sort < 5 ? least : sort < 7 ? most : least + dice.next(most - least + 1);
        }
        same((String) row[0], a);
    }

    private void tellSomething() {
        String text = TextByHand.random(dice);
        int end = Math.min(text.length(), 60);
        same("wipe");
        for (int i = 0; i < end; i += 4) {
            int bytes = 0;
            int n = Math.min(4, end - i);
            for (int k = 0; k < n; k++) {
                bytes = bytes << 8 | text.charAt(i + k);
            }
            same("feed", bytes, n);
        }
        same("text");
    }

    /** All that can be seen, and what was kept. */
    private void callAll() {
        for (int what = 0; what < 8; what++) {
            same("count", what);
            same("status", what - 1);
            same("now", what);
        }
        for (int round = 0; round < 2; round++) {
            for (int i = 0; i <= 12; i++) {
                same("book", i, 0);
                same("book", i, 2 + i % 5);
            }
            for (int place = 0; place < 10; place++) {
                same("as", place, 0);
                same("fits", place / 5, place % 5);
                same("of", place / 5, place % 5, place % 3);
            }
            same("undo");
        }
    }

    private void same(String call, int... a) {
        calls++;
        Check.due(name + ": " + call + Arrays.toString(a), asked(x, call, a), asked(y, call, a));
    }

    private static int asked(Object of, String call, int[] a) {
        try {
            Class<?>[] types = new Class<?>[a.length];
            Arrays.fill(types, int.class);
            Method m = of.getClass().getMethod(call, types);
            Object[] numbers = new Object[a.length];
            for (int i = 0; i < a.length; i++) {
                numbers[i] = a[i];
            }
            return (Integer) m.invoke(of, numbers);
        } catch (NoSuchMethodException | IllegalAccessException | InvocationTargetException e) {
            throw new IllegalStateException(call + Arrays.toString(a), e);
        }
    }
}
