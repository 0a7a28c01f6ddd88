import java.util.ArrayList;
import java.util.Arrays;
import java.util.List;
import java.util.function.ToIntFunction;

/**
 * The document once more, written down as plainly as can be and with no thought for room or time, to hold the class
 * against. It shares no line with the class.
 */
public final class ByHand implements TextByHand.Told {
    private static final int[] NO_SHEET = null;

    private int[] kinds = new int[5];
    private int[][] home = {{10, 10, 10, 10, 10}, {10, 10, 10, 10, 10}};
    private int[][] heap = new int[2][5];
    private int[][] worth = {{5, 5, 5, 5, 5}, {5, 5, 5, 5, 5}};
    private int[] greed = {2, 2};
    private int[] trust = {5, 5};
    private int frost = 0;
    private int night = 0;
    private int struck = 0;
    private int ate = 0;
    private int z = 1;
    private int[] spots = new int[10];
    /** The latest first: both HEAPS, FROST, TRUST, whose it was, what was DONE. */
    private List<int[]> books = new ArrayList<>();

    private StringBuilder tape = new StringBuilder();
    private int[][] sheets = {NO_SHEET, NO_SHEET, NO_SHEET, NO_SHEET};
    private int[] bits = new int[4];
    private ByHand kept = null;
    private int[] found = new int[7];

    public ByHand() {
        Arrays.fill(spots, -1);
    }

    /** Another one with all but THE TAPE, SHEETS, what is kept and what was found. */
    private ByHand copied() {
        ByHand c = new ByHand();
        c.become(this);
        return c;
    }

    private void become(ByHand o) {
        kinds = o.kinds.clone();
        home = new int[][] {o.home[0].clone(), o.home[1].clone()};
        heap = new int[][] {o.heap[0].clone(), o.heap[1].clone()};
        worth = new int[][] {o.worth[0].clone(), o.worth[1].clone()};
        greed = o.greed.clone();
        trust = o.trust.clone();
        frost = o.frost;
        night = o.night;
        struck = o.struck;
        ate = o.ate;
        z = o.z;
        spots = o.spots.clone();
        books = new ArrayList<>(o.books);
    }

    private int finding(int which) {
        found[which]++;
        return -1000001 - which;
    }

    private static boolean in(int v, int least, int most) {
        return v >= least && v <= most;
    }

    private int beyond() {
        return finding(0);
    }

    private int state() {
        return finding(4);
    }

    // ---- terms

    private boolean isA(int kind, int top) {
        switch (kind) {
            case 1: case 2: case 5: return top == kind || top == 0;
            case 3: return top == 3 || top == 1 || top == 0;
            case 4: return top == 4 || top == 2 || top == 0;
            case 6: return top == 6 || top == 5 || top == 0;
            default: return top == 0;
        }
    }

    private int priced(int side, int thing, int n) {
        int w = worth[side][thing];
        int k = kinds[thing];
        int sum = w * n;
        if (isA(k, 2)) {
            sum += frost * n;
        }
        if (isA(k, 4)) {
            sum += frost * n;
        }
        if (isA(k, 5) && n > 1) {
            sum = w + w / 2 * (n - 1);
        }
        if (isA(k, 6) && n > 0) {
            sum += 3;
        }
        return sum;
    }

    private int eatenOf(int thing, int n) {
        int gone = 0;
        if (isA(kinds[thing], 1)) {
            gone += n >= 1 ? 1 : 0;
        }
        if (isA(kinds[thing], 3)) {
            gone += n >= 2 ? 1 : 0;
            gone = frost > 4 ? 0 : gone;
        }
        return gone;
    }

    private int valued(int side, int[] things) {
        int sum = 0;
        for (int t = 0; t < 5; t++) {
            sum += priced(side, t, things[t]);
        }
        return sum;
    }

    private int valueOfAll(int side) {
        int[] all = new int[5];
        for (int t = 0; t < 5; t++) {
            all[t] = home[side][t] + heap[side][t];
        }
        return valued(side, all);
    }

    private static int sum(int... things) {
        return Arrays.stream(things).sum();
    }

    private boolean isContent(int side) {
        return sum(heap[1 - side]) > 0 && valued(side, heap[1 - side]) >= valued(side, heap[side]) + greed[side];
    }

    private int doneBy(int side) {
        boolean empty = sum(heap[side]) == 0;
        if (trust[side] == 0) {
            return empty ? 0 : 3;
        }
        return isContent(side) ? 1 : empty ? 0 : 2;
    }

    private int lessOf(int side) {
        int best = -1;
        int most = -1;
        for (int t = 0; t < 5; t++) {
            int n = heap[side][t];
            if (n > 0 && priced(side, t, n) - priced(side, t, n - 1) > most) {
                most = priced(side, t, n) - priced(side, t, n - 1);
                best = t;
            }
        }
        return best;
    }

    private void comeHome(int side, int[] things) {
        for (int t = 0; t < 5; t++) {
            home[side][t] = Math.min(99, home[side][t] + things[t]);
        }
    }

    private boolean goNight() {
        int side = night % 2;
        int done = doneBy(side);
        int[] row = new int[14];
        System.arraycopy(heap[0], 0, row, 0, 5);
        System.arraycopy(heap[1], 0, row, 5, 5);
        row[10] = frost;
        row[11] = trust[side];
        row[12] = side;
        row[13] = done;
        books.add(0, row);
        if (books.size() > 12) {
            books.remove(12);
        }
        if (done == 1) {
            comeHome(0, heap[1]);
            comeHome(1, heap[0]);
            heap = new int[2][5];
            trust[0] = Math.min(9, trust[0] + 1);
            trust[1] = Math.min(9, trust[1] + 1);
            struck++;
        } else if (done == 2) {
            int t = lessOf(side);
            heap[side][t]--;
            home[side][t] = Math.min(99, home[side][t] + 1);
        } else if (done == 3) {
            comeHome(side, heap[side]);
            heap[side] = new int[5];
        }
        for (int t = 0; t < 5; t++) {
            for (int s = 0; s < 2; s++) {
                int gone = eatenOf(t, heap[s][t]);
                heap[s][t] -= gone;
                ate += gone;
            }
        }
        night++;
        return done == 1;
    }

    private int goMany(int n) {
        int takes = 0;
        for (int i = 0; i < n; i++) {
            takes += goNight() ? 1 : 0;
        }
        return takes;
    }

    private ByHand behind(int n) {
        ByHand later = copied();
        later.goMany(n);
        return later;
    }

    // ---- things, sides

    @Override
    public int kind(int thing, int v) {
        if (!in(thing, 0, 4) || !in(v, 0, 6)) {
            return beyond();
        }
        int was = kinds[thing];
        kinds[thing] = v;
        return was;
    }

    private int[] row(int side, int what) {
        return what == 0 ? home[side] : what == 1 ? heap[side] : worth[side];
    }

    public int of(int side, int thing, int what) {
        return in(side, 0, 1) && in(thing, 0, 4) && in(what, 0, 2) ? row(side, what)[thing] : beyond();
    }

    @Override
    public int change(int side, int thing, int what, int v) {
        if (!in(side, 0, 1) || !in(thing, 0, 4) || !in(what, 0, 2) || !in(v, 0, what == 2 ? 20 : 99)) {
            return beyond();
        }
        int was = row(side, what)[thing];
        row(side, what)[thing] = v;
        return was;
    }

    @Override
    public int side(int side, int what, int v) {
        if (!in(side, 0, 1) || !in(what, 0, 1) || !in(v, 0, what == 0 ? 50 : 9)) {
            return beyond();
        }
        int[] minds = what == 0 ? greed : trust;
        int was = minds[side];
        minds[side] = v;
        return was;
    }

    @Override
    public int frost(int v) {
        if (!in(v, 0, 9)) {
            return beyond();
        }
        int was = frost;
        frost = v;
        return was;
    }

    public int price(int side, int thing, int n) {
        return in(side, 0, 1) && in(thing, 0, 4) && in(n, 0, 99) ? priced(side, thing, n) : beyond();
    }

    public int value(int side, int of) {
        return in(side, 0, 1) && in(of, 0, 1) ? valued(side, heap[of]) : beyond();
    }

    public int eaten(int thing, int n) {
        return in(thing, 0, 4) && in(n, 0, 99) ? eatenOf(thing, n) : beyond();
    }

    // ---- heaps

    private boolean mayLay(int side, int thing, int n) {
        return home[side][thing] >= n && trust[side] != 0 && heap[side][thing] + n <= 99;
    }

    public int lay(int side, int thing, int n) {
        if (!in(side, 0, 1) || !in(thing, 0, 4) || !in(n, 1, 99)) {
            return beyond();
        }
        if (!mayLay(side, thing, n)) {
            return state();
        }
        home[side][thing] -= n;
        return heap[side][thing] += n;
    }

    public int back(int side, int thing, int n) {
        if (!in(side, 0, 1) || !in(thing, 0, 4) || !in(n, 1, 99)) {
            return beyond();
        }
        if (heap[side][thing] < n || home[side][thing] + n > 99) {
            return state();
        }
        home[side][thing] += n;
        return heap[side][thing] -= n;
    }

    public int content(int side) {
        return !in(side, 0, 1) ? beyond() : isContent(side) ? 1 : 0;
    }

    public int does(int side) {
        return in(side, 0, 1) ? doneBy(side) : beyond();
    }

    public int less(int side) {
        return !in(side, 0, 1) ? beyond() : doneBy(side) == 2 ? lessOf(side) : finding(3);
    }

    public int steal(int side) {
        if (!in(side, 0, 1)) {
            return beyond();
        }
        if (sum(heap[1 - side]) == 0) {
            return state();
        }
        int loot = valued(side, heap[1 - side]);
        comeHome(side, heap[1 - side]);
        heap[1 - side] = new int[5];
        trust[1 - side] = 0;
        return loot;
    }

    public int gift(int side, int thing, int n) {
        if (!in(side, 0, 1) || !in(thing, 0, 4) || !in(n, 1, 99)) {
            return beyond();
        }
        if (home[side][thing] < n) {
            return state();
        }
        home[side][thing] -= n;
        home[1 - side][thing] = Math.min(99, home[1 - side][thing] + n);
        return trust[1 - side] = Math.min(9, trust[1 - side] + 1);
    }

    // ---- nights

    private boolean isLate(int n) {
        return night + n > 9999;
    }

    public int nights(int n) {
        return !in(n, 1, 60) ? beyond() : isLate(n) ? state() : goMany(n);
    }

    public int now(int what) {
        if (!in(what, 0, 6)) {
            return beyond();
        }
        int homes = sum(home[0]) + sum(home[1]);
        return new int[] {night, sum(heap[0]), sum(heap[1]), homes, books.size(), frost, struck}[what];
    }

    public int ahead(int n, int what) {
        if (!in(n, 0, 60) || !in(what, 0, 4)) {
            return beyond();
        }
        if (isLate(n)) {
            return state();
        }
        ByHand later = behind(n);
        return new int[] {later.struck - struck, sum(later.heap[0]) + sum(later.heap[1]), later.ate - ate,
            later.valueOfAll(0) - valueOfAll(0), later.valueOfAll(1) - valueOfAll(1)}[what];
    }

    public int struck() {
        if (night > 9939) {
            return state();
        }
        ByHand later = copied();
        for (int n = 1; n <= 60; n++) {
            if (later.goNight()) {
                return n;
            }
        }
        return finding(3);
    }

    public int empty() {
        if (night > 9939) {
            return state();
        }
        ByHand later = copied();
        for (int n = 0; n <= 60; n++) {
            if (sum(later.heap[0]) == 0 && sum(later.heap[1]) == 0) {
                return n;
            }
            later.goNight();
        }
        return finding(3);
    }

    // ---- what to lay

    /** The number from 0 to last by which most comes; of several the least. */
    private static int mostBy(int last, ToIntFunction<Integer> gives) {
        int best = 0;
        for (int i = 1; i <= last; i++) {
            best = gives.applyAsInt(i) > gives.applyAsInt(best) ? i : best;
        }
        return best;
    }

    /** VALUE of all behind n nights with that HEAP; where it hasn't so many, nothing is that little. */
    private int withHeap(int side, int n, int laid) {
        ByHand o = copied();
        o.comeHome(side, heap[side]);
        o.heap[side] = new int[5];
        int[] lays = {laid % 4, laid / 4 % 4, laid / 16};
        for (int t = 0; t < 3; t++) {
            if (lays[t] > o.home[side][t]) {
                return Integer.MIN_VALUE;
            }
            o.home[side][t] -= lays[t];
            o.heap[side][t] = lays[t];
        }
        return o.behind(n).valueOfAll(side);
    }

    public int best(int side, int n) {
        if (!in(side, 0, 1) || !in(n, 1, 30)) {
            return beyond();
        }
        return isLate(n) || trust[side] == 0 ? state() : mostBy(63, laid -> withHeap(side, n, laid));
    }

    public int gain(int side, int n) {
        int best = best(side, n);
        return best < 0 ? best : withHeap(side, n, best) - valueOfAll(side);
    }

    public int greed(int side, int n) {
        if (!in(side, 0, 1) || !in(n, 1, 30)) {
            return beyond();
        }
        return isLate(n) ? state() : mostBy(50, g -> {
            ByHand o = copied();
            o.greed[side] = g;
            return o.behind(n).valueOfAll(side) - o.valueOfAll(side);
        });
    }

    public int kindFor(int thing, int n) {
        if (!in(thing, 0, 4) || !in(n, 1, 30)) {
            return beyond();
        }
        return isLate(n) ? state() : mostBy(6, k -> {
            ByHand o = copied();
            o.kinds[thing] = k;
            ByHand later = o.behind(n);
            return later.valueOfAll(0) + later.valueOfAll(1) - o.valueOfAll(0) - o.valueOfAll(1);
        });
    }

    public int temptation(int side, int n) {
        if (!in(side, 0, 1) || !in(n, 1, 60)) {
            return beyond();
        }
        if (isLate(n)) {
            return state();
        }
        ByHand thief = copied();
        thief.comeHome(side, heap[1 - side]);
        return thief.valueOfAll(side) - behind(n).valueOfAll(side);
    }

    public int bundle() {
        int best = mostBy(44, this::gainsOf);
        return gainsOf(best) > 0 ? best : finding(3);
    }

    private int gainsOf(int code) {
        int a = code / 10;
        int b = code % 10;
        if (b > 4 || a == b || home[0][a] == 0 || home[1][b] == 0) {
            return 0;
        }
        int gain0 = priced(0, b, 1) - priced(0, a, 1);
        int gain1 = priced(1, a, 1) - priced(1, b, 1);
        return Math.min(gain0, gain1) > 0 ? gain0 + gain1 : 0;
    }

    // ---- books

    public int book(int i, int what) {
        if (i < 0 || !in(what, 0, 6)) {
            return beyond();
        }
        if (i >= books.size()) {
            return finding(3);
        }
        int[] row = books.get(i);
        return what == 0 ? row[13] : what == 1 ? row[12] : row[5 * row[12] + what - 2];
    }

    private boolean wouldHaveDone(int side) {
        for (int[] row : books) {
            ByHand then = copied();
            then.heap = new int[][] {Arrays.copyOfRange(row, 0, 5), Arrays.copyOfRange(row, 5, 10)};
            then.frost = row[10];
            then.trust[side] = row[11];
            if (row[12] == side && row[11] != 0 && then.doneBy(side) != row[13]) {
                return false;
            }
        }
        return true;
    }

    public int fits(int side, int thing) {
        if (!in(side, 0, 1) || !in(thing, 0, 4)) {
            return beyond();
        }
        int set = 0;
        for (int w = 0; w <= 20; w++) {
            ByHand o = copied();
            o.worth[side][thing] = w;
            set += o.wouldHaveDone(side) ? 1 << w : 0;
        }
        return set;
    }

    public int greeds(int side) {
        if (!in(side, 0, 1)) {
            return beyond();
        }
        int set = 0;
        for (int g = 0; g <= 30; g++) {
            ByHand o = copied();
            o.greed[side] = g;
            set += o.wouldHaveDone(side) ? 1 << g : 0;
        }
        return set;
    }

    public int known(int side) {
        return !in(side, 0, 1) ? beyond() : mostBy(4, t -> -Integer.bitCount(fits(side, t)));
    }

    // ---- draws

    private int draw() {
        z = (int) (z * 1103515245L + 12345L);
        return (int) ((z & 0xffffffffL) / 256);
    }

    public int season(int n) {
        if (!in(n, 1, 12)) {
            return beyond();
        }
        if (isLate(2 * n)) {
            return state();
        }
        int takes = 0;
        for (int i = 0; i < n; i++) {
            frost = draw() % 10;
            int side = draw() % 2;
            int thing = draw() % 5;
            if (mayLay(side, thing, 1)) {
                lay(side, thing, 1);
            }
            takes += goMany(2);
        }
        return takes;
    }

    public int seed(int v) {
        int was = z;
        z = v;
        return was;
    }

    // ---- texts

    public int feed(int bytes, int n) {
        if (!in(n, 1, 4)) {
            return beyond();
        }
        if (tape.length() + n > 120) {
            return finding(1);
        }
        String four = new String(new char[] {(char) (bytes >> 24 & 255), (char) (bytes >> 16 & 255),
            (char) (bytes >> 8 & 255), (char) (bytes & 255)});
        return tape.append(four.substring(4 - n)).length();
    }

    public int wipe() {
        int had = tape.length();
        tape = new StringBuilder();
        return had;
    }

    public int text() {
        TextByHand text = new TextByHand(tape.toString());
        wipe();
        int answer = text.answer();
        if (answer > 0) {
            text.tellTo(this);
        }
        return answer;
    }

    // ---- spots, sheets

    public int hold(int spot, int thing) {
        if (!in(spot, 0, 9) || !in(thing, -1, 4)) {
            return beyond();
        }
        spots[spot] = thing;
        return 1;
    }

    public int as(int spot, int kind) {
        if (!in(spot, 0, 9) || !in(kind, 0, 6)) {
            return beyond();
        }
        if (spots[spot] == -1) {
            return finding(5);
        }
        return isA(kinds[spots[spot]], kind) ? spots[spot] : finding(2);
    }

    public int sheet(int s, int of, int n) {
        if (!in(s, 0, 3) || of != 0 && of != 8 && of != 16 && of != 32) {
            return beyond();
        }
        if (n < 0) {
            return finding(6);
        }
        if (n > 40) {
            return beyond();
        }
        bits[s] = of;
        sheets[s] = of == 0 ? NO_SHEET : new int[n];
        return of == 0 ? 0 : n;
    }

    public int write(int s, int i, int v) {
        if (!in(s, 0, 3)) {
            return beyond();
        }
        if (sheets[s] == NO_SHEET) {
            return finding(5);
        }
        if (!in(i, 0, sheets[s].length - 1)) {
            return beyond();
        }
        long range = 1L << bits[s];
        long low = Math.floorMod((long) v, range);
        sheets[s][i] = (int) (low >= range / 2 ? low - range : low);
        return 1;
    }

    public int copy(int s, int from, int t, int to, int n) {
        if (!in(s, 0, 3) || !in(t, 0, 3)) {
            return beyond();
        }
        if (sheets[s] == NO_SHEET || sheets[t] == NO_SHEET) {
            return finding(5);
        }
        if (bits[s] != bits[t]) {
            return finding(2);
        }
        if (from < 0 || to < 0 || n < 0 || (long) from + n > sheets[s].length || (long) to + n > sheets[t].length) {
            return beyond();
        }
        int[] were = sheets[s].clone();
        for (int i = 0; i < n; i++) {
            sheets[t][to + i] = were[from + i];
        }
        return n;
    }

    public int load(int s) {
        if (!in(s, 0, 3)) {
            return beyond();
        }
        if (sheets[s] == NO_SHEET) {
            return finding(5);
        }
        for (int i = 0; i < sheets[s].length; i++) {
            if (i == 5 || !in(sheets[s][i], 0, 20)) {
                return i;
            }
            worth[1][i] = sheets[s][i];
        }
        return sheets[s].length;
    }

    public int judge(int s) {
        if (!in(s, 0, 3)) {
            return beyond();
        }
        if (sheets[s] == NO_SHEET) {
            return finding(5);
        }
        if (isLate(sheets[s].length)) {
            return state();
        }
        for (int i = 0; i < sheets[s].length; i++) {
            ByHand then = behind(i);
            if (then.doneBy(then.night % 2) != sheets[s][i]) {
                return 1 + i;
            }
        }
        return 0;
    }

    // ---- images

    public int image() {
        kept = copied();
        return 1;
    }

    public int undo() {
        if (kept == null) {
            return finding(3);
        }
        become(kept);
        return night;
    }

    public int tear() {
        int was = kept == null ? 0 : 1;
        kept = null;
        return was;
    }

    public int count(int what) {
        if (!in(what, 0, 7)) {
            return beyond();
        }
        int held = (int) Arrays.stream(spots).filter(thing -> thing >= 0).count();
        return new int[] {night, struck, sum(heap[0]) + sum(heap[1]), trust[0] + trust[1], ate, tape.length(), z, held}[what];
    }

    public int status(int which) {
        return !in(which, -1, 6) ? beyond() : which == -1 ? sum(found) : found[which];
    }
}
