/**
 * Promise 4, Terms: "did an earlier one reach beyond the end that is told now, the datagram in the
 * making is dropped, the fragment with it."
 */
public final class EarlierReachBoundaryTest {
    public static void main(String[] args) {
        Check check = new Check();
        int[][] reachTo24 = {{2, 8}, {1, 16}};
        for (int[] earlier : reachTo24) {
            told(check, earlier, new int[] {2, 7}, true);
            told(check, earlier, new int[] {2, 8}, false);
            told(check, earlier, new int[] {3, 0}, false);
            told(check, earlier, new int[] {3, 1}, false);
            told(check, earlier, new int[] {0, 0}, true);
            told(check, earlier, new int[] {0, 23}, true);
            told(check, earlier, new int[] {1, 0}, true);
        }
        told(check, new int[] {511, 8}, new int[] {511, 7}, true);
        told(check, new int[] {511, 8}, new int[] {512, 0}, false);
        anyEarlierOneCounts(check);
        comesBeforeTheWhole(check);
        onlyOwnAndTakenOnesCount(check);
        check.finish();
    }

    private static void told(Check check, int[] earlier, int[] last, boolean contradicted) {
        int end = last[0] * 8 + last[1];
        String name = "reach " + (earlier[0] * 8 + earlier[1]) + ", then end " + end;
        Sender sender = new Sender();
        check.due(name + ": middle", sender.middle(1, earlier[0], earlier[1], 1), -1);
        check.due(name + ": last", sender.last(1, last[0], last[1], 2), contradicted ? -3 : -1);
        check.counts(name, sender.house, contradicted ? 0 : 1, 0);
        check.tray(name, sender.house, 0);
    }

    /** The farthest reach counts, whether it was the first, the second or the third. */
    private static void anyEarlierOneCounts(Check check) {
        int[][] orders = {{4, 1, 2}, {1, 4, 2}, {1, 2, 4}};
        for (int[] order : orders) {
            Sender below = new Sender();
            Sender at = new Sender();
            for (int offset : order) {
                below.middle(1, offset, 8, 1);
                at.middle(1, offset, 8, 1);
            }
            check.due("end 39 behind reach 40", below.last(1, 4, 7, 1), -3);
            check.due("end 40 behind reach 40", at.last(1, 4, 8, 1), -1);
        }
    }

    /** All bytes before the told end are there, but one beyond it too. */
    private static void comesBeforeTheWhole(Check check) {
        Sender sender = new Sender();
        sender.middle(1, 0, 16, 1);
        check.due("end 8 of 16", sender.last(1, 1, 0, 0), -3);
        sender.middle(1, 0, 16, 1);
        check.due("end 15 of 16", sender.last(1, 1, 7, 0), -3);
        sender.middle(1, 0, 8, 1);
        check.due("end 0 of 8", sender.last(1, 0, 0, 0), -3);
        check.counts("behind them", sender.house, 0, 0);
        sender.middle(1, 0, 16, 1);
        check.due("end 16 of 16", sender.last(1, 2, 0, 0), 16);
    }

    private static void onlyOwnAndTakenOnesCount(Check check) {
        Sender sender = new Sender();
        sender.middle(2, 9, 8, 1);
        sender.middle(1, 1, 8, 1);
        check.due("an unsound one reaches far", sender.middle(1, 5, 7, 1), -2);
        check.due("one beyond the room reaches far", sender.last(1, 512, 1, 1), -2);
        check.due("end 16 behind reach 16", sender.last(1, 2, 0, 1), -1);
        check.due("first", sender.middle(1, 0, 8, 1), 16);
        check.due("a new one of the same marks", sender.last(1, 0, 4, 1), 4);
        check.due("the other is contradicted by its own", sender.last(2, 9, 7, 1), -3);
        check.due("and then begins anew", sender.last(2, 0, 7, 1), 7);
    }
}
