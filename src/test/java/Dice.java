/** Numbers for runs that are always the same, and runs of calls made by them. */
final class Dice {
    private static final int[] EXTREMES = {Integer.MIN_VALUE, -1000001, -2, -1, 0, 1, 2, 7, 8, 16, 32, 40, 41, 99,
        100, 1000, Integer.MAX_VALUE - 1, Integer.MAX_VALUE};
    /** How many calls the face has. */
    static final int CALLS = 47;

    private long z;

    Dice(int seed) {
        z = seed;
    }

    int next(int sides) {
        z = z * 6364136223846793005L + 1442695040888963407L;
        return (int) ((z >>> 33) % sides);
    }

    /** Mostly from least to most; now and then anything. */
    int near(int least, int most) {
        return next(25) == 0 ? EXTREMES[next(EXTREMES.length)] : least + next(most - least + 1);
    }

    /** A call with arguments as they are mostly wanted: which, and five numbers. */
    int[] call() {
        int which = next(CALLS);
        int side = near(0, 1);
        int thing = near(0, 4);
        switch (which) {
            case 0: return new int[] {which, thing, near(0, 6), 0, 0, 0};
            case 2: return new int[] {which, side, thing, near(0, 2), near(0, 20), 0};
            case 3: return new int[] {which, side, near(0, 1), near(0, 9), 0, 0};
            case 4: return new int[] {which, near(0, 9), 0, 0, 0, 0};
            case 6: case 28: return new int[] {which, side, near(0, 1), 0, 0, 0};
            case 7: case 23: return new int[] {which, thing, near(1, 8), 0, 0, 0};
            case 8: case 9: case 14: return new int[] {which, side, thing, near(1, 6), 0, 0};
            case 15: return new int[] {which, near(1, 5), 0, 0, 0, 0};
            case 16: case 45: return new int[] {which, near(0, 7), 0, 0, 0, 0};
            case 17: return new int[] {which, near(0, 60), near(0, 4), 0, 0, 0};
            case 20: case 21: case 22: case 24: return new int[] {which, side, near(1, 30), 0, 0, 0};
            case 26: return new int[] {which, near(0, 12), near(0, 6), 0, 0, 0};
            case 30: return new int[] {which, near(1, 3), 0, 0, 0, 0};
            case 31: return new int[] {which, next(1 << 30), 0, 0, 0, 0};
            case 32: return new int[] {which, textBytes(), 4, 0, 0, 0};
            case 35: case 36: return new int[] {which, near(0, 9), near(0, 4), 0, 0, 0};
            case 37: return new int[] {which, near(0, 3), 8 << next(3), near(0, 12), 0, 0};
            case 38: return new int[] {which, near(0, 3), near(0, 9), near(0, 20), 0, 0};
            case 39: return new int[] {which, near(0, 3), near(0, 4), near(0, 3), near(0, 4), near(0, 4)};
            case 40: case 41: return new int[] {which, near(0, 3), 0, 0, 0, 0};
            case 46: return new int[] {which, near(-1, 6), 0, 0, 0, 0};
            default: return new int[] {which, side, thing, near(0, 9), 0, 0};
        }
    }

    /** Four bytes of which texts are made, so that some runs tell whole ITEMS. */
    private int textBytes() {
        String[] parts = {"fur1", "fur3", ";   ", " ;  ", "doll", " 4; ", "side", " 0  ", " 1; ", "heap", "1 2 ", "home"};
        String part = parts[next(parts.length)];
        int bytes = 0;
        for (int i = 0; i < 4; i++) {
            bytes = bytes << 8 | part.charAt(i);
        }
        return bytes;
    }

    /** Makes a call. */
    static int make(HedgeHeaps x, int[] c) {
        switch (c[0]) {
            case 0: return x.kind(c[1], c[2]);
            case 1: return x.of(c[1], c[2], c[3]);
            case 2: return x.change(c[1], c[2], c[3], c[4]);
            case 3: return x.side(c[1], c[2], c[3]);
            case 4: return x.frost(c[1]);
            case 5: return x.price(c[1], c[2], c[3]);
            case 6: return x.value(c[1], c[2]);
            case 7: return x.eaten(c[1], c[2]);
            case 8: return x.lay(c[1], c[2], c[3]);
            case 9: return x.back(c[1], c[2], c[3]);
            case 10: return x.content(c[1]);
            case 11: return x.does(c[1]);
            case 12: return x.less(c[1]);
            case 13: return x.steal(c[1]);
            case 14: return x.gift(c[1], c[2], c[3]);
            case 15: return x.nights(c[1]);
            case 16: return x.now(c[1]);
            case 17: return x.ahead(c[1], c[2]);
            case 18: return x.struck();
            case 19: return x.empty();
            case 20: return x.best(c[1], c[2]);
            case 21: return x.gain(c[1], c[2]);
            case 22: return x.greed(c[1], c[2]);
            case 23: return x.kindFor(c[1], c[2]);
            case 24: return x.temptation(c[1], c[2]);
            case 25: return x.bundle();
            case 26: return x.book(c[1], c[2]);
            case 27: return x.fits(c[1], c[2]);
            case 28: return x.greeds(c[1]);
            case 29: return x.known(c[1]);
            case 30: return x.season(c[1]);
            case 31: return x.seed(c[1]);
            case 32: return x.feed(c[1], c[2]);
            case 33: return x.wipe();
            case 34: return x.text();
            case 35: return x.hold(c[1], c[2]);
            case 36: return x.as(c[1], c[2]);
            case 37: return x.sheet(c[1], c[2], c[3]);
            case 38: return x.write(c[1], c[2], c[3]);
            case 39: return x.copy(c[1], c[2], c[3], c[4], c[5]);
            case 40: return x.load(c[1]);
            case 41: return x.judge(c[1]);
            case 42: return x.image();
            case 43: return x.undo();
            case 44: return x.tear();
            case 45: return x.count(c[1]);
            default: return x.status(c[1]);
        }
    }

    /** Whether an answer of that call is a finding. */
    static boolean isFinding(int[] c, int answer) {
        boolean tellsZ = c[0] == 31 || (c[0] == 45 && c[1] == 6);
        return !tellsZ && answer <= Check.BEYOND;
    }
}
