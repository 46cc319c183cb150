/**
 * Promise 4, Terms: "reaches any fragment beyond the known end [..] the datagram in the making is
 * dropped, the fragment with it."
 */
public final class BeyondTheKnownEndBoundaryTest {
    /** A last fragment's offset and bytes, and with it the end that it tells. */
    private static final int[][] ENDS = {{2, 7}, {2, 8}, {3, 0}, {3, 1}};

    public static void main(String[] args) {
        Check check = new Check();
        for (int[] end : ENDS) {
            reaches(check, end, 1, 8);
            reaches(check, end, 2, 8);
            reaches(check, end, 3, 8);
            reaches(check, end, 1, 16);
            reaches(check, end, 1, 24);
            reaches(check, end, 327, 1480);
        }
        comesBeforeTheWhole(check);
        endAtTheRoom(check);
        theDatagramIsGone(check);
        check.finish();
    }

    private static void reaches(Check check, int[] last, int offset, int count) {
        int end = last[0] * 8 + last[1];
        int reach = offset * 8 + count;
        String name = "end " + end + ", reach " + reach;
        Sender sender = new Sender();
        check.due(name + ": last", sender.last(1, last[0], last[1], 1), -1);
        check.due(name + ": middle", sender.middle(1, offset, count, 2), reach > end ? -3 : -1);
        check.counts(name, sender.house, reach > end ? 0 : 1, 0);
        check.tray(name, sender.house, 0);
    }

    /** All bytes before the end come, but some behind it too. */
    private static void comesBeforeTheWhole(Check check) {
        Sender sender = new Sender();
        sender.last(1, 2, 0, 1);
        check.due("up to 24 of 16", sender.middle(1, 0, 24, 2), -3);
        sender.last(1, 1, 7, 1);
        check.due("up to 16 of 15", sender.middle(1, 0, 16, 2), -3);
        check.counts("behind both", sender.house, 0, 0);
        sender.last(1, 2, 0, 1);
        check.due("up to 16 of 16", sender.middle(1, 0, 16, 2), 16);
    }

    private static void endAtTheRoom(Check check) {
        Sender sender = new Sender();
        sender.last(1, 511, 7, 1);
        check.due("up to 4088 of 4095", sender.middle(1, 510, 8, 2), -1);
        check.due("up to 4096 of 4095", sender.middle(1, 511, 8, 2), -3);
        sender.last(1, 512, 0, 1);
        check.due("up to 4096 of 4096", sender.middle(1, 511, 8, 2), -1);
    }

    /** What comes behind begins a new one that knows neither the end nor the bytes. */
    private static void theDatagramIsGone(Check check) {
        Sender sender = new Sender();
        sender.middle(1, 0, 8, 1);
        sender.last(1, 2, 8, 1);
        check.due("beyond the end", sender.middle(1, 3, 8, 1), -3);
        check.due("the missing part is no more missing", sender.middle(1, 1, 8, 2), -1);
        check.due("beyond the old end", sender.last(1, 3, 8, 3), -1);
        check.due("first again", sender.middle(1, 0, 8, 4), -1);
        check.due("third again", sender.middle(1, 2, 8, 5), 32);
        check.units("the new one", sender.house, 4, 2, 5, 3);
    }
}
