import java.util.function.Supplier;
import java.util.function.ToIntFunction;

/**
 * Objects in which much stands, and all that can be seen of an object as one text: so that of two objects made alike,
 * of which one got a call more, it can be told whether that call changed anything. An object that is made, asked and
 * told here stays below its 512 calls.
 */
final class Whole {
    static final int LAST_NIGHT = 9999;
    private static final int NIGHTS_IN_FILLED = 5;

    private Whole() {
    }

    /** Something of everything, and an image that is unlike what there is now. */
    static HedgeHeaps filled() {
        HedgeHeaps x = new HedgeHeaps();
        int[] kinds = {3, 4, 6, 1, 2};
        for (int t = 0; t < 5; t++) {
            x.kind(t, kinds[t]);
        }
        x.frost(3);
        int[][] stock = {{0, 0, 1, 6}, {1, 1, 1, 3}, {1, 2, 1, 5}, {0, 3, 1, 4}, {0, 4, 2, 8}, {1, 0, 2, 9}, {1, 3, 0, 17}};
        for (int[] s : stock) {
            x.change(s[0], s[1], s[2], s[3]);
        }
        x.side(0, 0, 4);
        x.side(1, 1, 7);
        x.hold(2, 3);
        x.hold(9, 0);
        x.nights(2);
        x.image();
        x.seed(-77);
        x.hold(5, 1);
        x.hold(9, -1);
        x.kind(4, 5);
        x.frost(2);
        x.side(1, 0, 6);
        x.side(0, 1, 8);
        x.nights(NIGHTS_IN_FILLED - 2);
        layAnew(x);
        fillSheets(x);
        int[] text = {0x66757220, 0x303b6672, 0x6f737420};
        for (int four : text) {
            x.feed(four, 4);
        }
        x.feed('8', 1);
        x.frost(10);
        x.load(3);
        return x;
    }

    private static void layAnew(HedgeHeaps x) {
        x.change(0, 2, Check.HEAP, 2);
        x.change(0, 3, Check.HEAP, 7);
        x.change(1, 0, Check.HEAP, 3);
        x.change(1, 4, Check.HEAP, 4);
    }

    /** Sheet 0 has 4 numbers, 1 has 40, 2 has none, 3 is MISSING. */
    private static void fillSheets(HedgeHeaps x) {
        x.sheet(0, 8, 4);
        x.sheet(1, 16, 40);
        x.sheet(2, 32, 0);
        for (int i = 0; i < 4; i++) {
            x.write(0, i, 11 + i);
            x.write(1, i, 2);
        }
        x.write(1, 39, 16);
    }

    static HedgeHeaps filledAt(int night) {
        HedgeHeaps x = filled();
        goNights(x, night - NIGHTS_IN_FILLED);
        layAnew(x);
        return x;
    }

    static HedgeHeaps atNight(int night) {
        HedgeHeaps x = new HedgeHeaps();
        goNights(x, night);
        Check.due("NIGHT", x.count(0), night);
        return x;
    }

    /** The last night; nobody has anything nor trusts, no sheet, nothing kept, and THE TAPE is full. */
    static HedgeHeaps bare() {
        HedgeHeaps x = atNight(LAST_NIGHT);
        for (int place = 0; place < 10; place++) {
            x.change(place / 5, place % 5, Check.HOME, 0);
        }
        x.side(0, 1, 0);
        x.side(1, 1, 0);
        for (int i = 0; i < 30; i++) {
            x.feed(0x20203b3b, 4);
        }
        return x;
    }

    private static void goNights(HedgeHeaps x, int n) {
        for (int left = n; left > 0; left -= 60) {
            x.nights(Math.min(60, left));
        }
    }

    /** The call answers that finding, and nothing changes but what status() tells. */
    static void refused(String name, Supplier<HedgeHeaps> made, ToIntFunction<HedgeHeaps> call, int finding) {
        HedgeHeaps asked = made.get();
        HedgeHeaps left = made.get();
        Check.due(name, call.applyAsInt(asked), finding);
        for (int which = -1; which < 7; which++) {
            boolean counts = which == -1 || which == Check.BEYOND - finding;
            Check.due(name + ": status(" + which + ")", asked.status(which), left.status(which) + (counts ? 1 : 0));
        }
        same(name, asked, left);
    }

    /** The call answers that, which is no finding, and nothing changes at all. */
    static void asks(String name, Supplier<HedgeHeaps> made, ToIntFunction<HedgeHeaps> call, int want) {
        HedgeHeaps asked = made.get();
        HedgeHeaps left = made.get();
        Check.due(name, call.applyAsInt(asked), want);
        Check.due(name + " is no finding", asked.status(-1), left.status(-1));
        same(name, asked, left);
    }

    static void same(String name, HedgeHeaps x, HedgeHeaps y) {
        String want = told(y);
        String got = told(x);
        Check.holds(name + ": nothing else changes:\n  " + got + "\n  " + want, got.equals(want));
    }

    /** All that can be seen of an object; some of it can be seen but by changing it. */
    static String told(HedgeHeaps x) {
        StringBuilder out = new StringBuilder();
        for (int i = 0; i < 12; i++) {
            out.append(x.book(i, 0)).append(' ').append(x.book(i, 2 + i % 5)).append(' ');
        }
        out.append(x.book(12, 0));
        tellBorder(x, out.append("\nborder "));
        tellSheets(x, out.append("\nsheets "));
        out.append("\ntext ").append(x.text()).append(' ').append(x.now(5));
        for (int t = 0; t < 5; t++) {
            out.append(' ').append(x.kind(t, 0));
        }
        out.append("\nkept ").append(x.undo()).append(' ').append(x.book(0, 2)).append(' ').append(x.book(2, 0));
        tellBorder(x, out.append("\nborder "));
        return out.append(' ').append(x.tear()).toString();
    }

    private static void tellBorder(HedgeHeaps x, StringBuilder out) {
        for (int place = 0; place < 10; place++) {
            out.append(x.fits(place / 5, place % 5)).append(' ');
        }
        out.append(x.greeds(0)).append(' ').append(x.greeds(1));
        for (int what = 0; what < 30; what++) {
            out.append(' ').append(x.of(what / 15, what / 3 % 5, what % 3));
        }
        out.append(" now");
        for (int what : new int[] {0, 4, 5, 6}) {
            out.append(' ').append(x.now(what));
        }
        out.append(" count");
        for (int what = 3; what < 8; what++) {
            out.append(' ').append(x.count(what));
        }
        out.append(" spots");
        for (int spot = 0; spot < 10; spot++) {
            out.append(' ').append(x.as(spot, 0));
        }
        out.append(" kinds");
        for (int t = 0; t < 5; t++) {
            out.append(' ').append(x.kind(t, 0));
        }
        out.append(" sides");
        for (int what = 0; what < 4; what++) {
            out.append(' ').append(x.side(what / 2, what % 2, 0));
        }
    }

    /** Of each sheet the first five numbers and the last of 40, how many there are, and of how many bits. */
    private static void tellSheets(HedgeHeaps x, StringBuilder out) {
        for (int pair = 0; pair < 16; pair++) {
            if (pair / 4 < pair % 4) {
                out.append(x.copy(pair / 4, 0, pair % 4, 0, 0)).append(' ');
            }
        }
        for (int s = 0; s < 4; s++) {
            out.append("\n  ").append(x.load(s));
            for (int t = 0; t < 5; t++) {
                out.append(' ').append(x.of(1, t, Check.WORTH));
            }
            out.append(' ').append(x.copy(s, 39, s, 0, 1)).append(' ').append(x.load(s));
            out.append(' ').append(x.of(1, 0, Check.WORTH));
            for (int size : new int[] {1, 4, 5, 40}) {
                out.append(' ').append(x.write(s, size - 1, 0));
            }
            // 256 + 7 is 7 of 8 bits alone, 65536 + 7 is so of 16, too.
            out.append(' ').append(x.write(s, 0, 263)).append(' ').append(x.load(s));
            out.append(' ').append(x.write(s, 0, 65543)).append(' ').append(x.load(s));
        }
    }
}
