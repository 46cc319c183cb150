/**
 * Promise 4, Terms: "Is the end known already and another one [..] the datagram in the making is
 * dropped, the fragment with it."
 */
public final class AnotherEndBoundaryTest {
    public static void main(String[] args) {
        Check check = new Check();
        oneBelowAndOneAbove(check);
        emptyOnesTellTheEndToo(check);
        atTheRoom(check);
        comesBeforeTheWhole(check);
        otherDatagramsStay(check);
        check.finish();
    }

    /** The end is told by a first fragment, and then by a second one. */
    private static void told(Check check, int[] first, int[] second, int due) {
        Sender sender = new Sender();
        String name = "end " + (first[0] * 8 + first[1]) + ", then " + (second[0] * 8 + second[1]);
        check.due(name + ": first", sender.last(1, first[0], first[1], 1), -1);
        check.due(name + ": second", sender.last(1, second[0], second[1], 2), due);
        check.counts(name, sender.house, due == -1 ? 1 : 0, 0);
        check.tray(name, sender.house, 0);
    }

    private static void toldByEach(Check check, int[] first, int[][] seconds, int due) {
        for (int[] second : seconds) {
            told(check, first, second, due);
        }
    }

    private static void oneBelowAndOneAbove(Check check) {
        int[] end21 = {2, 5};
        int[][] others = {{2, 4}, {2, 6}, {1, 12}, {1, 14}, {2, 0}, {3, 0}, {2, 13}, {500, 5}};
        int[][] same = {{2, 5}, {1, 13}};
        toldByEach(check, end21, others, -3);
        toldByEach(check, end21, same, -1);
    }

    private static void emptyOnesTellTheEndToo(Check check) {
        int[] end16 = {2, 0};
        int[][] others = {{1, 7}, {1, 9}, {1, 0}, {3, 0}, {0, 0}, {2, 1}};
        int[][] same = {{2, 0}, {1, 8}};
        toldByEach(check, end16, others, -3);
        toldByEach(check, end16, same, -1);
    }

    private static void atTheRoom(Check check) {
        told(check, new int[] {511, 8}, new int[] {511, 7}, -3);
        told(check, new int[] {511, 8}, new int[] {512, 0}, -1);
        told(check, new int[] {511, 7}, new int[] {511, 8}, -3);
        told(check, new int[] {511, 7}, new int[] {511, 7}, -1);
    }

    /** Each would be whole at once if it were not for the end that is known. */
    private static void comesBeforeTheWhole(Check check) {
        int[] counts = {0, 15, 17};
        for (int count : counts) {
            told(check, new int[] {2, 0}, new int[] {0, count}, -3);
        }
        Sender sender = new Sender();
        sender.last(1, 2, 0, 1);
        check.due("the same end, all bytes before it", sender.last(1, 0, 16, 1), 16);
    }

    private static void otherDatagramsStay(Check check) {
        Sender sender = new Sender();
        for (int key = 1; key <= 4; key++) {
            check.due("own end of " + key, sender.last(key, 1, key, 1), -1);
        }
        check.due("another end of the second", sender.last(2, 1, 3, 1), -3);
        check.due("making", sender.house.making(), 3);
        int[] rest = {1, 3, 4};
        for (int key : rest) {
            check.due("number " + key + " goes on", sender.middle(key, 0, 8, 1), 8 + key);
        }
        check.due("the second begins anew", sender.middle(2, 0, 8, 1), -1);
        check.due("with an end of its own", sender.last(2, 1, 8, 1), 16);
    }
}
