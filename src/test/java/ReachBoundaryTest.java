/**
 * Promise 4, Terms: "no fragment may reach beyond 4096 bytes (its offset times 8 and its bytes):
 * else it is dropped."
 */
public final class ReachBoundaryTest {
    public static void main(String[] args) {
        Check check = new Check();
        middles(check);
        lasts(check);
        droppedOnesLeaveTheRest(check);
        largestDatagram(check);
        largestDatagramWithAnEmptyLast(check);
        check.finish();
    }

    private static void middles(Check check) {
        int[][] within = {{510, 8}, {511, 8}, {510, 16}, {327, 1480}, {328, 1472}, {326, 1480}};
        int[][] beyond = {{512, 8}, {511, 16}, {510, 24}, {328, 1480}, {329, 1472}, {513, 8}, {8191, 1480}};
        answered(check, within, false, -1);
        answered(check, beyond, false, -2);
    }

    private static void lasts(Check check) {
        int[][] within = {{511, 7}, {511, 8}, {512, 0}, {511, 0}, {327, 1479}, {327, 1480}, {328, 1472}};
        int[][] beyond = {{511, 9}, {512, 1}, {513, 0}, {512, 8}, {328, 1473}, {328, 1480}, {8191, 0}};
        answered(check, within, true, -1);
        answered(check, beyond, true, -2);
    }

    /** Each, of an offset and a number of bytes, comes to a new house. */
    private static void answered(Check check, int[][] fragments, boolean last, int due) {
        for (int[] fragment : fragments) {
            Sender sender = new Sender();
            String name = (last ? "last" : "middle") + " at " + fragment[0] + " of " + fragment[1];
            check.due(name, sender.bring(1, fragment[0], fragment[1], 1, last), due);
            check.counts(name, sender.house, due == -1 ? 1 : 0, 0);
            check.tray(name, sender.house, 0);
        }
    }

    /** Though it reaches beyond a known end too, the fragment is dropped alone. */
    private static void droppedOnesLeaveTheRest(Check check) {
        int[] keys = {1, 2, 3, KnownState.NO_SUCH_KEY};
        for (int key : keys) {
            String name = " of " + key + " beyond the room";
            KnownState.stays(check, "middle" + name, 16, 0, -2,
                house -> house.take(key, key, key, 511, false));
            KnownState.stays(check, "last" + name, 9, 0, -2,
                house -> house.take(key, key, key, 511, true));
            KnownState.stays(check, "empty last" + name, 0, 0, -2,
                house -> house.take(key, key, key, 513, true));
        }
    }

    private static void largestDatagram(Check check) {
        Sender sender = new Sender();
        check.due("bytes 2960 to 4095", sender.last(1, 370, 1136, 3), -1);
        check.due("bytes 0 to 1479", sender.middle(1, 0, 1480, 1), -1);
        check.due("bytes 1480 to 2959", sender.middle(1, 185, 1480, 2), 4096);
        lookAtTheLargest(check, sender.house);
    }

    private static void largestDatagramWithAnEmptyLast(Check check) {
        Sender sender = new Sender();
        check.due("bytes 0 to 1479", sender.middle(1, 0, 1480, 1), -1);
        check.due("bytes 2960 to 4095", sender.middle(1, 370, 1136, 3), -1);
        check.due("bytes 1480 to 2959", sender.middle(1, 185, 1480, 2), -1);
        check.due("empty last at 512", sender.last(1, 512, 0, 0), 4096);
        lookAtTheLargest(check, sender.house);
    }

    private static void lookAtTheLargest(Check check, FragmentHouse house) {
        check.due("length()", house.length(), 4096);
        int[][] worths = {
            {0, 1}, {1479, 1}, {1480, 2}, {2959, 2}, {2960, 3}, {4094, 3}, {4095, 3}, {4096, -1}};
        for (int[] worth : worths) {
            check.due("at(" + worth[0] + ")", house.at(worth[0]), worth[1]);
        }
    }
}
