import java.util.Arrays;

/** Heaps at the hedge: trade without a word between two sides, as DOC.md tells it. */
public final class HedgeHeaps {
    private static final int LOW = -1000001;
    /* Findings, told by status() under these numbers; the answer is LOW less the number. */
    private static final int BEYOND = 0;
    private static final int FULL = 1;
    private static final int KIND = 2;
    private static final int NONE = 3;
    private static final int STATE = 4;
    private static final int MISSING = 5;
    private static final int SIZE = 6;
    private static final int FINDINGS = 7;

    private static final int SIDES = 2;
    private static final int THINGS = 5;
    private static final int KINDS = 7;
    private static final int SPOTS = 10;
    private static final int SHEETS = 4;

    private static final int FOOD = 1;
    private static final int CLOTH = 2;
    private static final int MEAT = 3;
    private static final int FUR = 4;
    private static final int TOOL = 5;
    private static final int DOLL = 6;
    /* The KIND above each KIND; nothing is above THING. */
    private static final int[] ABOVE = {-1, 0, 0, 1, 2, 0, 5};

    private static final int HOME = 0;
    private static final int HEAP = 1;
    private static final int WORTH = 2;

    private static final int NOTHING_DONE = 0;
    private static final int TAKES = 1;
    private static final int LESS = 2;
    private static final int WITHDRAWS = 3;

    private static final int MOST_THINGS = 99;
    private static final int MOST_WORTH = 20;
    private static final int MOST_GREED = 50;
    private static final int MOST_GREED_IN_SET = 30;
    private static final int MOST_TRUST = 9;
    private static final int MOST_FROST = 9;
    private static final int LAST_NIGHT = 9999;
    private static final int FAR = 60;
    private static final int NEAR = 30;
    private static final int MOST_ROUNDS = 12;
    private static final int HEAPS_TO_TRY = 64;
    private static final int NIGHTS_IN_BOOKS = 12;
    private static final int TAPE_LENGTH = 120;
    private static final int SHEET_LENGTH = 40;
    private static final int NOT_HELD = -1;

    private final State live = new State();
    private final State kept = new State();
    private boolean isKept = false;
    /* One row of things to try out on, used again by every call that looks AHEAD. */
    private final Border trial = new Border();
    private final Script script = new Script();
    private final Sheet[] sheets = new Sheet[SHEETS];
    private final int[] found = new int[FINDINGS];

    public HedgeHeaps() {
        for (int s = 0; s < SHEETS; s++) {
            sheets[s] = new Sheet();
        }
    }

    // ---- things, sides

    public int kind(int thing, int v) {
        if (!isThing(thing) || !isKind(v)) {
            return finding(BEYOND);
        }
        int was = live.border.kinds[thing];
        live.border.kinds[thing] = v;
        return was;
    }

    public int of(int side, int thing, int what) {
        if (!isSide(side) || !isThing(thing) || !isIn(what, HOME, WORTH)) {
            return finding(BEYOND);
        }
        return live.border.stock(what)[side * THINGS + thing];
    }

    public int change(int side, int thing, int what, int v) {
        if (!isSide(side) || !isThing(thing) || !isIn(what, HOME, WORTH) || !isIn(v, 0, mostOf(what))) {
            return finding(BEYOND);
        }
        int[] stock = live.border.stock(what);
        int was = stock[side * THINGS + thing];
        stock[side * THINGS + thing] = v;
        return was;
    }

    public int side(int side, int what, int v) {
        if (!isSide(side) || !isIn(what, 0, 1) || !isIn(v, 0, what == 0 ? MOST_GREED : MOST_TRUST)) {
            return finding(BEYOND);
        }
        int[] row = what == 0 ? live.border.greeds : live.border.trusts;
        int was = row[side];
        row[side] = v;
        return was;
    }

    public int frost(int v) {
        if (!isIn(v, 0, MOST_FROST)) {
            return finding(BEYOND);
        }
        int was = live.border.frost;
        live.border.frost = v;
        return was;
    }

    public int price(int side, int thing, int n) {
        if (!isSide(side) || !isThing(thing) || !isIn(n, 0, MOST_THINGS)) {
            return finding(BEYOND);
        }
        return live.border.priceOf(side, thing, n);
    }

    public int value(int side, int heap) {
        if (!isSide(side) || !isSide(heap)) {
            return finding(BEYOND);
        }
        return live.border.heapValue(side, heap);
    }

    public int eaten(int thing, int n) {
        if (!isThing(thing) || !isIn(n, 0, MOST_THINGS)) {
            return finding(BEYOND);
        }
        return live.border.eatenOf(thing, n);
    }

    // ---- heaps

    public int lay(int side, int thing, int n) {
        if (!isSide(side) || !isThing(thing) || !isIn(n, 1, MOST_THINGS)) {
            return finding(BEYOND);
        }
        if (!live.border.mayLay(side, thing, n)) {
            return finding(STATE);
        }
        return live.border.layDown(side, thing, n);
    }

    public int back(int side, int thing, int n) {
        if (!isSide(side) || !isThing(thing) || !isIn(n, 1, MOST_THINGS)) {
            return finding(BEYOND);
        }
        int place = side * THINGS + thing;
        Border border = live.border;
        if (border.heaps[place] < n || border.homes[place] + n > MOST_THINGS) {
            return finding(STATE);
        }
        border.heaps[place] -= n;
        border.homes[place] += n;
        return border.heaps[place];
    }

    public int content(int side) {
        if (!isSide(side)) {
            return finding(BEYOND);
        }
        return live.border.isContent(side) ? 1 : 0;
    }

    public int does(int side) {
        if (!isSide(side)) {
            return finding(BEYOND);
        }
        return live.border.deedOf(side);
    }

    public int less(int side) {
        if (!isSide(side)) {
            return finding(BEYOND);
        }
        if (live.border.deedOf(side) != LESS) {
            return finding(NONE);
        }
        return live.border.dearestLast(side);
    }

    public int steal(int side) {
        if (!isSide(side)) {
            return finding(BEYOND);
        }
        Border border = live.border;
        int other = 1 - side;
        if (border.heapCount(other) == 0) {
            return finding(STATE);
        }
        int loot = border.heapValue(side, other);
        border.bringHome(other, side);
        border.trusts[other] = 0;
        return loot;
    }

    public int gift(int side, int thing, int n) {
        if (!isSide(side) || !isThing(thing) || !isIn(n, 1, MOST_THINGS)) {
            return finding(BEYOND);
        }
        Border border = live.border;
        int other = 1 - side;
        if (border.homes[side * THINGS + thing] < n) {
            return finding(STATE);
        }
        border.homes[side * THINGS + thing] -= n;
        border.addHome(other, thing, n);
        border.trustMore(other);
        return border.trusts[other];
    }

    // ---- nights

    public int nights(int n) {
        if (!isIn(n, 1, FAR)) {
            return finding(BEYOND);
        }
        if (isTooLate(n)) {
            return finding(STATE);
        }
        return goNights(n);
    }

    public int now(int what) {
        Border border = live.border;
        switch (what) {
            case 0: return border.night;
            case 1: return border.heapCount(0);
            case 2: return border.heapCount(1);
            case 3: return border.homeCount();
            case 4: return live.books.size;
            case 5: return border.frost;
            case 6: return border.bargains;
            default: return finding(BEYOND);
        }
    }

    public int ahead(int n, int what) {
        if (!isIn(n, 0, FAR) || !isIn(what, 0, 4)) {
            return finding(BEYOND);
        }
        if (isTooLate(n)) {
            return finding(STATE);
        }
        trial.copyFrom(live.border);
        int takes = trial.passNights(n);
        switch (what) {
            case 0: return takes;
            case 1: return trial.heapCount(0) + trial.heapCount(1);
            case 2: return trial.birdsAte - live.border.birdsAte;
            default: return trial.wealth(what - 3) - live.border.wealth(what - 3);
        }
    }

    public int struck() {
        if (isTooLate(FAR)) {
            return finding(STATE);
        }
        trial.copyFrom(live.border);
        for (int n = 1; n <= FAR; n++) {
            if (trial.passNights(1) == 1) {
                return n;
            }
        }
        return finding(NONE);
    }

    public int empty() {
        if (isTooLate(FAR)) {
            return finding(STATE);
        }
        trial.copyFrom(live.border);
        for (int n = 0; n <= FAR; n++) {
            if (trial.heapCount(0) == 0 && trial.heapCount(1) == 0) {
                return n;
            }
            trial.passNights(1);
        }
        return finding(NONE);
    }

    // ---- what to lay (nothing changes)

    public int best(int side, int n) {
        if (!isSide(side) || !isIn(n, 1, NEAR)) {
            return finding(BEYOND);
        }
        if (isTooLate(n) || live.border.trusts[side] == 0) {
            return finding(STATE);
        }
        return bestHeap(side, n);
    }

    public int gain(int side, int n) {
        if (!isSide(side) || !isIn(n, 1, NEAR)) {
            return finding(BEYOND);
        }
        if (isTooLate(n) || live.border.trusts[side] == 0) {
            return finding(STATE);
        }
        tryHeap(side, bestHeap(side, n));
        trial.passNights(n);
        return trial.wealth(side) - live.border.wealth(side);
    }

    public int greed(int side, int n) {
        if (!isSide(side) || !isIn(n, 1, NEAR)) {
            return finding(BEYOND);
        }
        if (isTooLate(n)) {
            return finding(STATE);
        }
        int best = 0;
        int most = 0;
        for (int greed = 0; greed <= MOST_GREED; greed++) {
            trial.copyFrom(live.border);
            trial.greeds[side] = greed;
            trial.passNights(n);
            int wealth = trial.wealth(side);
            if (greed == 0 || wealth > most) {
                best = greed;
                most = wealth;
            }
        }
        return best;
    }

    public int kindFor(int thing, int n) {
        if (!isThing(thing) || !isIn(n, 1, NEAR)) {
            return finding(BEYOND);
        }
        if (isTooLate(n)) {
            return finding(STATE);
        }
        int best = 0;
        int most = 0;
        for (int kind = 0; kind < KINDS; kind++) {
            trial.copyFrom(live.border);
            trial.kinds[thing] = kind;
            int before = trial.wealth(0) + trial.wealth(1);
            trial.passNights(n);
            int growth = trial.wealth(0) + trial.wealth(1) - before;
            if (kind == 0 || growth > most) {
                best = kind;
                most = growth;
            }
        }
        return best;
    }

    public int temptation(int side, int n) {
        if (!isSide(side) || !isIn(n, 1, FAR)) {
            return finding(BEYOND);
        }
        if (isTooLate(n)) {
            return finding(STATE);
        }
        trial.copyFrom(live.border);
        trial.bringHome(1 - side, side);
        int asThief = trial.wealth(side);
        trial.copyFrom(live.border);
        trial.passNights(n);
        return asThief - trial.wealth(side);
    }

    public int bundle() {
        int best = -1;
        int most = 0;
        for (int mine = 0; mine < THINGS; mine++) {
            for (int theirs = 0; theirs < THINGS; theirs++) {
                int gains = bundleGains(mine, theirs);
                if (gains > most) {
                    most = gains;
                    best = 10 * mine + theirs;
                }
            }
        }
        return best < 0 ? finding(NONE) : best;
    }

    // ---- books

    public int book(int i, int what) {
        if (i < 0 || !isIn(what, 0, 1 + THINGS)) {
            return finding(BEYOND);
        }
        if (i >= live.books.size) {
            return finding(NONE);
        }
        int[] row = live.books.latest(i);
        switch (what) {
            case 0: return row[Books.DEED];
            case 1: return row[Books.SIDE];
            default: return row[row[Books.SIDE] * THINGS + what - 2];
        }
    }

    public int fits(int side, int thing) {
        if (!isSide(side) || !isThing(thing)) {
            return finding(BEYOND);
        }
        return fittingWorths(side, thing);
    }

    public int greeds(int side) {
        if (!isSide(side)) {
            return finding(BEYOND);
        }
        trial.copyFrom(live.border);
        int set = 0;
        for (int greed = 0; greed <= MOST_GREED_IN_SET; greed++) {
            trial.greeds[side] = greed;
            if (trialAgreesWithBooks(side)) {
                set |= 1 << greed;
            }
        }
        return set;
    }

    public int known(int side) {
        if (!isSide(side)) {
            return finding(BEYOND);
        }
        int best = 0;
        int fewest = MOST_WORTH + 2;
        for (int thing = 0; thing < THINGS; thing++) {
            int fitting = Integer.bitCount(fittingWorths(side, thing));
            if (fitting < fewest) {
                best = thing;
                fewest = fitting;
            }
        }
        return best;
    }

    // ---- draws

    public int season(int n) {
        if (!isIn(n, 1, MOST_ROUNDS)) {
            return finding(BEYOND);
        }
        if (isTooLate(2 * n)) {
            return finding(STATE);
        }
        int takes = 0;
        for (int i = 0; i < n; i++) {
            live.border.frost = live.draw() % 10;
            int side = live.draw() % SIDES;
            int thing = live.draw() % THINGS;
            if (live.border.mayLay(side, thing, 1)) {
                live.border.layDown(side, thing, 1);
            }
            takes += goNights(2);
        }
        return takes;
    }

    public int seed(int v) {
        int was = live.z;
        live.z = v;
        return was;
    }

    // ---- texts

    public int feed(int bytes, int n) {
        if (!isIn(n, 1, 4)) {
            return finding(BEYOND);
        }
        if (script.size + n > TAPE_LENGTH) {
            return finding(FULL);
        }
        for (int i = n - 1; i >= 0; i--) {
            script.append((bytes >>> (8 * i)) & 255);
        }
        return script.size;
    }

    public int wipe() {
        int had = script.size;
        script.size = 0;
        return had;
    }

    public int text() {
        // Told to the trial first: a FAULT may stand behind ITEMS that could be read.
        trial.copyFrom(live.border);
        int items = script.tell(trial);
        script.size = 0;
        if (items >= 0) {
            live.border.copyFrom(trial);
        }
        return items;
    }

    // ---- spots, sheets

    public int hold(int spot, int thing) {
        if (!isIn(spot, 0, SPOTS - 1) || !isIn(thing, NOT_HELD, THINGS - 1)) {
            return finding(BEYOND);
        }
        live.spots[spot] = thing;
        return 1;
    }

    public int as(int spot, int kind) {
        if (!isIn(spot, 0, SPOTS - 1) || !isKind(kind)) {
            return finding(BEYOND);
        }
        int thing = live.spots[spot];
        if (!isThing(thing)) {
            return finding(MISSING);
        }
        if (!isUnder(live.border.kinds[thing], kind)) {
            return finding(KIND);
        }
        return thing;
    }

    public int sheet(int s, int bits, int n) {
        if (!isSheet(s) || (bits != 0 && bits != 8 && bits != 16 && bits != 32)) {
            return finding(BEYOND);
        }
        if (n < 0) {
            return finding(SIZE);
        }
        if (n > SHEET_LENGTH) {
            return finding(BEYOND);
        }
        return sheets[s].begin(bits, n);
    }

    public int write(int s, int i, int v) {
        if (!isSheet(s)) {
            return finding(BEYOND);
        }
        if (sheets[s].isMissing()) {
            return finding(MISSING);
        }
        if (!isIn(i, 0, sheets[s].size - 1)) {
            return finding(BEYOND);
        }
        sheets[s].put(i, v);
        return 1;
    }

    public int copy(int s, int from, int t, int to, int n) {
        if (!isSheet(s) || !isSheet(t)) {
            return finding(BEYOND);
        }
        Sheet source = sheets[s];
        Sheet target = sheets[t];
        if (source.isMissing() || target.isMissing()) {
            return finding(MISSING);
        }
        if (source.bits != target.bits) {
            return finding(KIND);
        }
        if (!source.has(from, n) || !target.has(to, n)) {
            return finding(BEYOND);
        }
        System.arraycopy(source.numbers, from, target.numbers, to, n);
        return n;
    }

    public int load(int s) {
        if (!isSheet(s)) {
            return finding(BEYOND);
        }
        Sheet sheet = sheets[s];
        if (sheet.isMissing()) {
            return finding(MISSING);
        }
        int came = 0;
        while (came < THINGS && came < sheet.size && isIn(sheet.numbers[came], 0, MOST_WORTH)) {
            live.border.worths[THINGS + came] = sheet.numbers[came];
            came++;
        }
        return came;
    }

    public int judge(int s) {
        if (!isSheet(s)) {
            return finding(BEYOND);
        }
        Sheet sheet = sheets[s];
        if (sheet.isMissing()) {
            return finding(MISSING);
        }
        if (isTooLate(sheet.size)) {
            return finding(STATE);
        }
        trial.copyFrom(live.border);
        for (int i = 0; i < sheet.size; i++) {
            int side = trial.turn();
            int deed = trial.deedOf(side);
            if (sheet.numbers[i] != deed) {
                return 1 + i;
            }
            trial.carryOut(side, deed);
        }
        return 0;
    }

    // ---- images

    public int image() {
        kept.copyFrom(live);
        isKept = true;
        return 1;
    }

    public int undo() {
        if (!isKept) {
            return finding(NONE);
        }
        live.copyFrom(kept);
        return live.border.night;
    }

    public int tear() {
        int was = isKept ? 1 : 0;
        isKept = false;
        return was;
    }

    public int count(int what) {
        Border border = live.border;
        switch (what) {
            case 0: return border.night;
            case 1: return border.bargains;
            case 2: return border.heapCount(0) + border.heapCount(1);
            case 3: return border.trusts[0] + border.trusts[1];
            case 4: return border.birdsAte;
            case 5: return script.size;
            case 6: return live.z;
            case 7: return live.spotsInUse();
            default: return finding(BEYOND);
        }
    }

    public int status(int which) {
        if (!isIn(which, -1, FINDINGS - 1)) {
            return finding(BEYOND);
        }
        if (which >= 0) {
            return found[which];
        }
        int all = 0;
        for (int i = 0; i < FINDINGS; i++) {
            all += found[i];
        }
        return all;
    }

    // ---- what the calls above share

    private int finding(int which) {
        found[which]++;
        return LOW - which;
    }

    private static boolean isIn(int v, int least, int most) {
        return v >= least && v <= most;
    }

    private static boolean isSide(int side) {
        return isIn(side, 0, SIDES - 1);
    }

    private static boolean isThing(int thing) {
        return isIn(thing, 0, THINGS - 1);
    }

    private static boolean isKind(int kind) {
        return isIn(kind, 0, KINDS - 1);
    }

    private static boolean isSheet(int s) {
        return isIn(s, 0, SHEETS - 1);
    }

    private static int mostOf(int what) {
        return what == WORTH ? MOST_WORTH : MOST_THINGS;
    }

    private static boolean isUnder(int kind, int top) {
        int at = kind;
        for (int step = 0; step < KINDS && isKind(at); step++) {
            if (at == top) {
                return true;
            }
            at = ABOVE[at];
        }
        return false;
    }

    private boolean isTooLate(int n) {
        return live.border.night + n > LAST_NIGHT;
    }

    private int goNights(int n) {
        Border border = live.border;
        int takes = 0;
        for (int i = 0; i < n; i++) {
            int side = border.turn();
            int deed = border.deedOf(side);
            live.books.note(border, side, deed);
            border.carryOut(side, deed);
            if (deed == TAKES) {
                takes++;
            }
        }
        return takes;
    }

    private int bestHeap(int side, int n) {
        int best = 0;
        int most = 0;
        for (int heap = 0; heap < HEAPS_TO_TRY; heap++) {
            if (tryHeap(side, heap)) {
                trial.passNights(n);
                int wealth = trial.wealth(side);
                if (heap == 0 || wealth > most) {
                    best = heap;
                    most = wealth;
                }
            }
        }
        return best;
    }

    /* The trial becomes the border with that HEAP laid anew; false if the SIDE has not so many. */
    private boolean tryHeap(int side, int heap) {
        trial.copyFrom(live.border);
        trial.bringHome(side, side);
        for (int thing = 0; thing < 3; thing++) {
            int n = (heap >> (2 * thing)) & 3;
            if (!trial.mayLay(side, thing, n)) {
                return false;
            }
            trial.layDown(side, thing, n);
        }
        return true;
    }

    /* Both gains together, 0 if one of the sides would not gain or has none to give. */
    private int bundleGains(int mine, int theirs) {
        Border border = live.border;
        if (border.homes[mine] == 0 || border.homes[THINGS + theirs] == 0) {
            return 0;
        }
        int gain0 = border.priceOf(0, theirs, 1) - border.priceOf(0, mine, 1);
        int gain1 = border.priceOf(1, mine, 1) - border.priceOf(1, theirs, 1);
        return gain0 > 0 && gain1 > 0 ? gain0 + gain1 : 0;
    }

    private int fittingWorths(int side, int thing) {
        trial.copyFrom(live.border);
        int set = 0;
        for (int worth = 0; worth <= MOST_WORTH; worth++) {
            trial.worths[side * THINGS + thing] = worth;
            if (trialAgreesWithBooks(side)) {
                set |= 1 << worth;
            }
        }
        return set;
    }

    private boolean trialAgreesWithBooks(int side) {
        Books books = live.books;
        for (int i = 0; i < books.size; i++) {
            int[] row = books.latest(i);
            if (row[Books.SIDE] == side && row[Books.TRUST] > 0) {
                trial.standAs(row);
                if (trial.deedOf(side) != row[Books.DEED]) {
                    return false;
                }
            }
        }
        return true;
    }

    /** Both sides, their things, and the nights: what the trade itself works on. */
    private static final class Border {
        final int[] kinds = new int[THINGS];
        /* Of SIDE s and THING t at s * THINGS + t. */
        final int[] homes = new int[SIDES * THINGS];
        final int[] heaps = new int[SIDES * THINGS];
        final int[] worths = new int[SIDES * THINGS];
        final int[] greeds = new int[SIDES];
        final int[] trusts = new int[SIDES];
        int frost = 0;
        int night = 0;
        int bargains = 0;
        int birdsAte = 0;

        Border() {
            Arrays.fill(homes, 10);
            Arrays.fill(worths, 5);
            Arrays.fill(greeds, 2);
            Arrays.fill(trusts, 5);
        }

        void copyFrom(Border other) {
            System.arraycopy(other.kinds, 0, kinds, 0, THINGS);
            System.arraycopy(other.homes, 0, homes, 0, SIDES * THINGS);
            System.arraycopy(other.heaps, 0, heaps, 0, SIDES * THINGS);
            System.arraycopy(other.worths, 0, worths, 0, SIDES * THINGS);
            System.arraycopy(other.greeds, 0, greeds, 0, SIDES);
            System.arraycopy(other.trusts, 0, trusts, 0, SIDES);
            frost = other.frost;
            night = other.night;
            bargains = other.bargains;
            birdsAte = other.birdsAte;
        }

        /* HEAPS, FROST and TRUST as a row of BOOKS has them. */
        void standAs(int[] row) {
            System.arraycopy(row, 0, heaps, 0, SIDES * THINGS);
            frost = row[Books.FROST];
            trusts[row[Books.SIDE]] = row[Books.TRUST];
        }

        int[] stock(int what) {
            switch (what) {
                case HOME: return homes;
                case HEAP: return heaps;
                default: return worths;
            }
        }

        int priceOf(int side, int thing, int n) {
            if (n <= 0) {
                return 0;
            }
            int worth = worths[side * THINGS + thing];
            switch (kinds[thing]) {
                case CLOTH: return (worth + frost) * n;
                case FUR: return (worth + frost + frost) * n;
                case TOOL: return worth + (n - 1) * (worth / 2);
                case DOLL: return worth + (n - 1) * (worth / 2) + 3;
                default: return worth * n;
            }
        }

        int eatenOf(int thing, int n) {
            switch (kinds[thing]) {
                case FOOD: return Math.min(n, 1);
                case MEAT: return frost > 4 ? 0 : Math.min(n, 2);
                default: return 0;
            }
        }

        int heapValue(int side, int heap) {
            int sum = 0;
            for (int thing = 0; thing < THINGS; thing++) {
                sum += priceOf(side, thing, heaps[heap * THINGS + thing]);
            }
            return sum;
        }

        /* VALUE of all that a SIDE has: of each THING, HOME and HEAP together. */
        int wealth(int side) {
            int sum = 0;
            for (int thing = 0; thing < THINGS; thing++) {
                int place = side * THINGS + thing;
                sum += priceOf(side, thing, homes[place] + heaps[place]);
            }
            return sum;
        }

        int heapCount(int side) {
            int sum = 0;
            for (int thing = 0; thing < THINGS; thing++) {
                sum += heaps[side * THINGS + thing];
            }
            return sum;
        }

        int homeCount() {
            int sum = 0;
            for (int place = 0; place < SIDES * THINGS; place++) {
                sum += homes[place];
            }
            return sum;
        }

        boolean mayLay(int side, int thing, int n) {
            int place = side * THINGS + thing;
            return homes[place] >= n && trusts[side] > 0 && heaps[place] + n <= MOST_THINGS;
        }

        int layDown(int side, int thing, int n) {
            int place = side * THINGS + thing;
            homes[place] -= n;
            heaps[place] += n;
            return heaps[place];
        }

        void addHome(int side, int thing, int n) {
            int place = side * THINGS + thing;
            homes[place] = Math.min(MOST_THINGS, homes[place] + n);
        }

        /* All of one SIDE's HEAP goes HOME to a SIDE, its own or the other. */
        void bringHome(int heap, int side) {
            for (int thing = 0; thing < THINGS; thing++) {
                addHome(side, thing, heaps[heap * THINGS + thing]);
                heaps[heap * THINGS + thing] = 0;
            }
        }

        void trustMore(int side) {
            trusts[side] = Math.min(MOST_TRUST, trusts[side] + 1);
        }

        int turn() {
            return night & 1;
        }

        boolean isContent(int side) {
            int other = 1 - side;
            return heapCount(other) > 0
                && heapValue(side, other) >= heapValue(side, side) + greeds[side];
        }

        int deedOf(int side) {
            boolean hasHeap = heapCount(side) > 0;
            if (trusts[side] == 0) {
                return hasHeap ? WITHDRAWS : NOTHING_DONE;
            }
            if (isContent(side)) {
                return TAKES;
            }
            return hasHeap ? LESS : NOTHING_DONE;
        }

        /* The THING in its own HEAP of which one more is worth most to it; -1 if that is empty. */
        int dearestLast(int side) {
            int dearest = -1;
            int most = 0;
            for (int thing = 0; thing < THINGS; thing++) {
                int n = heaps[side * THINGS + thing];
                if (n > 0) {
                    int last = priceOf(side, thing, n) - priceOf(side, thing, n - 1);
                    if (dearest < 0 || last > most) {
                        dearest = thing;
                        most = last;
                    }
                }
            }
            return dearest;
        }

        void takeOneAway(int side) {
            int thing = dearestLast(side);
            if (thing >= 0) {
                heaps[side * THINGS + thing]--;
                addHome(side, thing, 1);
            }
        }

        void changeHeaps() {
            bringHome(0, 1);
            bringHome(1, 0);
            trustMore(0);
            trustMore(1);
            bargains++;
        }

        void feedBirds() {
            for (int place = 0; place < SIDES * THINGS; place++) {
                int gone = eatenOf(place % THINGS, heaps[place]);
                heaps[place] -= gone;
                birdsAte += gone;
            }
        }

        void carryOut(int side, int deed) {
            switch (deed) {
                case TAKES: changeHeaps(); break;
                case LESS: takeOneAway(side); break;
                case WITHDRAWS: bringHome(side, side); break;
                default: break;
            }
            feedBirds();
            night++;
        }

        /* So many NIGHTS go, written in no BOOKS: in how many one TAKES. */
        int passNights(int n) {
            int takes = 0;
            for (int i = 0; i < n; i++) {
                int side = turn();
                int deed = deedOf(side);
                carryOut(side, deed);
                if (deed == TAKES) {
                    takes++;
                }
            }
            return takes;
        }
    }

    /** The latest NIGHTS, a row each; the rows are used again, the oldest first. */
    private static final class Books {
        /* What stands in a row behind both HEAPS. */
        static final int FROST = SIDES * THINGS;
        static final int TRUST = FROST + 1;
        static final int SIDE = FROST + 2;
        static final int DEED = FROST + 3;
        static final int ROW = FROST + 4;

        final int[][] rows = new int[NIGHTS_IN_BOOKS][ROW];
        int next = 0;
        int size = 0;

        void note(Border border, int side, int deed) {
            int[] row = rows[next];
            System.arraycopy(border.heaps, 0, row, 0, SIDES * THINGS);
            row[FROST] = border.frost;
            row[TRUST] = border.trusts[side];
            row[SIDE] = side;
            row[DEED] = deed;
            next = (next + 1) % NIGHTS_IN_BOOKS;
            size = Math.min(NIGHTS_IN_BOOKS, size + 1);
        }

        /* The i-th latest row, i from 0 to size - 1. */
        int[] latest(int i) {
            return rows[Math.floorMod(next - 1 - i, NIGHTS_IN_BOOKS)];
        }

        void copyFrom(Books other) {
            for (int i = 0; i < NIGHTS_IN_BOOKS; i++) {
                System.arraycopy(other.rows[i], 0, rows[i], 0, ROW);
            }
            next = other.next;
            size = other.size;
        }
    }

    /** All that an image keeps. */
    private static final class State {
        final Border border = new Border();
        final Books books = new Books();
        final int[] spots = new int[SPOTS];
        int z = 1;

        State() {
            Arrays.fill(spots, NOT_HELD);
        }

        void copyFrom(State other) {
            border.copyFrom(other.border);
            books.copyFrom(other.books);
            System.arraycopy(other.spots, 0, spots, 0, SPOTS);
            z = other.z;
        }

        int draw() {
            z = z * 1103515245 + 12345;
            return z >>> 8;
        }

        int spotsInUse() {
            int inUse = 0;
            for (int spot = 0; spot < SPOTS; spot++) {
                if (spots[spot] != NOT_HELD) {
                    inUse++;
                }
            }
            return inUse;
        }
    }

    /** Numbers of 8, 16 or 32 bits; of 0 bits it is MISSING. */
    private static final class Sheet {
        final int[] numbers = new int[SHEET_LENGTH];
        int bits = 0;
        int size = 0;

        boolean isMissing() {
            return bits == 0;
        }

        int begin(int newBits, int n) {
            bits = newBits;
            size = newBits == 0 ? 0 : n;
            Arrays.fill(numbers, 0);
            return size;
        }

        void put(int i, int v) {
            switch (bits) {
                case 8: numbers[i] = (byte) v; break;
                case 16: numbers[i] = (short) v; break;
                default: numbers[i] = v; break;
            }
        }

        boolean has(int from, int n) {
            // Not from + n > size: that sum may run over.
            return from >= 0 && n >= 0 && from <= size && n <= size - from;
        }
    }

    /**
     * THE TAPE and its reader. One TOKEN is read ahead; a FAULT always stands at that TOKEN's
     * begin, as the END's begin is how many bytes there are.
     */
    private static final class Script {
        private static final int END = 0;
        private static final int WORD = 1;
        private static final int NUMBER = 2;
        private static final int SIGN = 3;
        private static final int STRANGE = 4;
        /* Stands for all NUMBERS that are too great, so that none runs over. */
        private static final int TOO_GREAT = 1000;

        private final int[] bytes = new int[TAPE_LENGTH];
        int size = 0;
        private int token = END;
        private int begin = 0;
        private int end = 0;
        private int number = 0;

        void append(int b) {
            if (size < TAPE_LENGTH) {
                bytes[size] = b;
                size++;
            }
        }

        /* Tells the border all ITEMS: how many, or -1 less the FAULT. */
        int tell(Border border) {
            end = 0;
            advance();
            for (int items = 1; items <= TAPE_LENGTH; items++) {
                if (!tellItem(border)) {
                    return -1 - begin;
                }
                if (token == END) {
                    return items;
                }
                if (token != SIGN) {
                    return -1 - begin;
                }
                advance();
            }
            return -1 - begin;
        }

        private void advance() {
            begin = end;
            while (begin < size && bytes[begin] == ' ') {
                begin++;
            }
            end = begin;
            if (begin >= size) {
                token = END;
            } else if (isLetter(begin)) {
                readWord();
            } else if (isDigit(begin)) {
                readNumber();
            } else {
                token = bytes[begin] == ';' ? SIGN : STRANGE;
                end = begin + 1;
            }
        }

        private boolean isLetter(int at) {
            return bytes[at] >= 'a' && bytes[at] <= 'z';
        }

        private boolean isDigit(int at) {
            return bytes[at] >= '0' && bytes[at] <= '9';
        }

        private void readWord() {
            token = WORD;
            while (end < size && isLetter(end)) {
                end++;
            }
        }

        private void readNumber() {
            token = NUMBER;
            number = 0;
            while (end < size && isDigit(end)) {
                number = Math.min(TOO_GREAT, 10 * number + bytes[end] - '0');
                end++;
            }
        }

        private boolean isWord(String word) {
            if (token != WORD || end - begin != word.length()) {
                return false;
            }
            for (int i = 0; i < word.length(); i++) {
                if (bytes[begin + i] != word.charAt(i)) {
                    return false;
                }
            }
            return true;
        }

        /* Goes behind that WORD, if it stands here. */
        private boolean takeWord(String word) {
            boolean stands = isWord(word);
            if (stands) {
                advance();
            }
            return stands;
        }

        /* Goes behind a NUMBER from 0 to most and gives it; -1 if none stands here. */
        private int takeNumber(int most) {
            if (token != NUMBER || number > most) {
                return -1;
            }
            int taken = number;
            advance();
            return taken;
        }

        private boolean tellItem(Border border) {
            int kind = wordOfKind();
            if (kind >= 0) {
                advance();
                return tellKind(border, kind);
            }
            if (takeWord("side")) {
                return tellSide(border);
            }
            if (takeWord("home")) {
                return tellStock(border, HOME);
            }
            if (takeWord("heap")) {
                return tellStock(border, HEAP);
            }
            if (takeWord("worth")) {
                return tellStock(border, WORTH);
            }
            return takeWord("frost") && tellFrost(border);
        }

        private int wordOfKind() {
            if (isWord("thing")) {
                return 0;
            }
            if (isWord("food")) {
                return FOOD;
            }
            if (isWord("cloth")) {
                return CLOTH;
            }
            if (isWord("meat")) {
                return MEAT;
            }
            if (isWord("fur")) {
                return FUR;
            }
            if (isWord("tool")) {
                return TOOL;
            }
            return isWord("doll") ? DOLL : -1;
        }

        private boolean tellKind(Border border, int kind) {
            int thing = takeNumber(THINGS - 1);
            if (thing < 0) {
                return false;
            }
            border.kinds[thing] = kind;
            return true;
        }

        private boolean tellSide(Border border) {
            int side = takeNumber(SIDES - 1);
            if (side < 0) {
                return false;
            }
            if (takeWord("greed")) {
                int greed = takeNumber(MOST_GREED);
                if (greed < 0) {
                    return false;
                }
                border.greeds[side] = greed;
            }
            if (takeWord("trust")) {
                int trust = takeNumber(MOST_TRUST);
                if (trust < 0) {
                    return false;
                }
                border.trusts[side] = trust;
            }
            return true;
        }

        private boolean tellStock(Border border, int what) {
            int side = takeNumber(SIDES - 1);
            int thing = side < 0 ? -1 : takeNumber(THINGS - 1);
            int n = thing < 0 ? -1 : takeNumber(mostOf(what));
            if (n < 0) {
                return false;
            }
            border.stock(what)[side * THINGS + thing] = n;
            return true;
        }

        private boolean tellFrost(Border border) {
            int frost = takeNumber(MOST_FROST);
            if (frost < 0) {
                return false;
            }
            border.frost = frost;
            return true;
        }
    }
}
