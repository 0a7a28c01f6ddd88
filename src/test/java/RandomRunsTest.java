/**
 * Long runs of calls, some with wild arguments: none throws, findings are counted and change nothing else,
 * the same calls give the same answers, and no call makes objects.
 */
public final class RandomRunsTest {
    private static final int RUNS = 1500;
    private static final int CALLS_IN_A_RUN = 250;
    private static final int OBJECTS = 200;
    private static final int ASKS = 0;

    public static void main(String[] args) {
        for (int run = 0; run < RUNS; run++) {
            findingsChangeNothing(run);
        }
        callsMakeNothing();
        Check.end("RandomRunsTest");
    }

    /** One object gets all calls, the other one only those that the first answered without a finding. */
    private static void findingsChangeNothing(int run) {
        HedgeHeaps all = new HedgeHeaps();
        HedgeHeaps some = new HedgeHeaps();
        Dice dice = new Dice(run);
        int[] found = new int[7];
        for (int i = 0; i < CALLS_IN_A_RUN; i++) {
            int[] call = dice.call();
            int answer = Dice.make(all, call);
            if (Dice.isFinding(call, answer)) {
                Check.holds("a finding that is one", answer >= Check.SIZE);
                found[Check.BEYOND - answer]++;
            } else if (call[0] != 46) {
                Check.due("run " + run + ", call " + i + ", " + call[0], Dice.make(some, call), answer);
            }
        }
        int sum = 0;
        for (int which = 0; which < 7; which++) {
            Check.due("run " + run + ": status(" + which + ")", all.status(which), found[which]);
            sum += found[which];
        }
        Check.due("run " + run + ": status(-1)", all.status(-1), sum);
        Check.due("run " + run + ": no findings", some.status(-1), 0);
        sameState("run " + run, all, some);
    }

    private static void sameState(String run, HedgeHeaps x, HedgeHeaps y) {
        for (int place = 0; place < 10; place++) {
            for (int what = 0; what < 3; what++) {
                Check.due(run + ": of", x.of(place / 5, place % 5, what), y.of(place / 5, place % 5, what));
            }
            Check.due(run + ": spot", x.as(place, 0), y.as(place, 0));
        }
        for (int what = 0; what < 8; what++) {
            Check.due(run + ": count", x.count(what), y.count(what));
        }
        for (int i = 0; i < 12; i++) {
            for (int what = 0; what < 7; what++) {
                Check.due(run + ": book", x.book(i, what), y.book(i, what));
            }
        }
        for (int thing = 0; thing < 5; thing++) {
            Check.due(run + ": kind", x.kind(thing, 0), y.kind(thing, 0));
        }
        Check.due(run + ": frost", x.frost(ASKS), y.frost(ASKS));
        for (int side = 0; side < 2; side++) {
            Check.due(run + ": greed", x.side(side, 0, ASKS), y.side(side, 0, ASKS));
            Check.due(run + ": trust", x.side(side, 1, ASKS), y.side(side, 1, ASKS));
        }
        Check.due(run + ": text", x.text(), y.text());
        Check.due(run + ": undo", x.undo(), y.undo());
        Check.due(run + ": books of the image", x.now(4), y.now(4));
    }

    /** All calls of a run share one room: what a call makes would add up. */
    private static void callsMakeNothing() {
        com.sun.management.ThreadMXBean room =
            (com.sun.management.ThreadMXBean) java.lang.management.ManagementFactory.getThreadMXBean();
        HedgeHeaps[] objects = new HedgeHeaps[OBJECTS];
        int[][] calls = new int[OBJECTS * 512][];
        Dice dice = new Dice(-1);
        for (int i = 0; i < calls.length; i++) {
            if (i % 512 == 0) {
                objects[i / 512] = new HedgeHeaps();
            }
            calls[i] = dice.call();
        }
        long id = Thread.currentThread().getId();
        room.getThreadAllocatedBytes(id);
        long before = room.getThreadAllocatedBytes(id);
        for (int i = 0; i < calls.length; i++) {
            Dice.make(objects[i / 512], calls[i]);
        }
        long made = room.getThreadAllocatedBytes(id) - before;
        Check.holds(calls.length + " calls made " + made + " bytes", made < 4096);
    }
}
