/** All promises: runs of 512 mixed calls, each answer held against the plain model's. */
public final class MixedRunsTest {
    private static final int RUNS = 1500;
    private static final int CALLS = 512;
    private static final int[] EDGE_WORTHS = {
        Integer.MIN_VALUE, -1, 0, 1, 7, 8, 20, 1480, 4095, 4096, 8191, 8192, 2000000000,
        2000000001, Integer.MAX_VALUE};

    private final Check check;
    private final FragmentHouse house = new FragmentHouse();
    private final PlainModel model = new PlainModel();
    private final String name;
    private long state;
    /** Few keys and near offsets make wholes; many and far ones make full houses. */
    private final int keys;
    private final int offsets;
    private final int words;

    private MixedRunsTest(Check check, int run) {
        this.check = check;
        name = "run " + run;
        state = run * 7919L + 13;
        keys = 1 + below(7);
        offsets = 1 + below(run % 5 == 0 ? 520 : 6);
        words = run % 5 == 0 ? 80 : 3;
    }

    public static void main(String[] args) {
        Check check = new Check();
        int wholes = 0;
        for (int run = 0; run < RUNS; run++) {
            MixedRunsTest mixed = new MixedRunsTest(check, run);
            mixed.manyCalls();
            wholes += mixed.model.made();
        }
        check.holds("the runs make wholes enough to tell anything", wholes > RUNS * 5);
        check.finish();
    }

    private void manyCalls() {
        int calls = 0;
        while (calls < CALLS) {
            calls += below(3) == 0 ? look() : fragment(CALLS - calls);
        }
    }

    /** A small linear generator: the same calls at every run of the test. */
    private int below(int bound) {
        state = state * 6364136223846793005L + 1442695040888963407L;
        return (int) ((state >>> 33) % bound);
    }

    private int edgeWorth() {
        return EDGE_WORTHS[below(EDGE_WORTHS.length)];
    }

    private int look() {
        switch (below(8)) {
            case 0 -> check.due(name + " making()", house.making(), model.making());
            case 1 -> check.due(name + " made()", house.made(), model.made());
            case 2 -> check.due(name + " length()", house.length(), model.length());
            case 3 -> pass(below(40) == 0 ? edgeWorth() : model.timeNow() + below(5000) - 50);
            case 4 -> at(edgeWorth());
            case 5 -> at(model.length() - below(3));
            default -> at(below(Math.max(1, model.length())));
        }
        return 1;
    }

    private void at(int i) {
        check.due(name + " at(" + i + ")", house.at(i), model.at(i));
    }

    private void pass(int t) {
        check.due(name + " pass(" + t + ")", house.pass(t), model.pass(t));
    }

    private void end(int n) {
        check.due(name + " end(" + n + ")", house.end(n), model.end(n));
    }

    private int fragment(int callsLeft) {
        int feeds = Math.min(below(words), callsLeft);
        for (int k = 0; k < feeds; k++) {
            int a = below(1 << 30) * 5;
            int b = below(1 << 30) * 3;
            check.due(name + " feed", house.feed(a, b, -a, ~b, a + b), model.feed(a, b, -a, ~b, a + b));
        }
        if (feeds + 2 > callsLeft) {
            return Math.max(1, feeds);
        }
        int most = feeds * 20;
        end(below(30) == 0 ? edgeWorth() : below(6) == 0 ? below(most + 2) : most - most % 8);
        take();
        return feeds + 2;
    }

    private void take() {
        int key = below(keys);
        int offset = below(60) == 0 ? edgeWorth() : below(offsets);
        boolean last = below(4) == 0;
        check.due(name + " take(" + key + ", " + offset + ", " + last + ")",
            house.take(key & 1, key & 2, key & 4, offset, last),
            model.take(key & 1, key & 2, key & 4, offset, last));
    }
}
