/** Promise 4, Terms: "bytes that are there already stay as they are." */
public final class BytesStayBoundaryTest {
    public static void main(String[] args) {
        Check check = new Check();
        overlaps(check);
        everyWorthStays(check);
        lastOnesStayToo(check);
        lastOnesOverwriteNothing(check);
        theFirstOfThreeStays(check);
        check.finish();
    }

    /** The second unit is there: one comes from before it, from behind, over it and just on it. */
    private static void overlaps(Check check) {
        overlap(check, 0, 16, 2, 1, 3);
        overlap(check, 1, 16, 3, 1, 2);
        overlap(check, 0, 24, 2, 1, 2);
        overlap(check, 1, 8, 3, 1, 3);
        overlap(check, 0, 8, 2, 1, 3);
        overlap(check, 2, 8, 3, 1, 2);
    }

    private static void overlap(Check check, int offset, int count, int... due) {
        Sender sender = new Sender();
        sender.middle(1, 1, 8, 1);
        sender.middle(1, offset, count, 2);
        sender.middle(1, 0, 24, 3);
        String name = "over " + offset + " of " + count;
        check.due(name, sender.last(1, 3, 0, 0), 24);
        check.units(name, sender.house, due);
    }

    private static void everyWorthStays(Check check) {
        for (int worth = 0; worth < 256; worth++) {
            Sender sender = new Sender();
            sender.middle(1, 1, 8, worth);
            check.due("over " + worth, sender.last(1, 0, 16, worth + 1), 16);
            check.units("over " + worth, sender.house, worth + 1 & 0xff, worth);
        }
    }

    private static void lastOnesStayToo(Check check) {
        Sender sender = new Sender();
        sender.last(1, 2, 8, 1);
        check.due("a middle up to the end", sender.middle(1, 1, 16, 2), -1);
        check.due("a middle over all", sender.middle(1, 0, 24, 3), 24);
        check.units("behind them", sender.house, 3, 2, 1);
    }

    private static void lastOnesOverwriteNothing(Check check) {
        Sender sender = new Sender();
        sender.last(1, 2, 3, 1);
        check.due("the same end from before", sender.last(1, 1, 11, 2), -1);
        check.due("the same end from 0", sender.last(1, 0, 19, 3), 19);
        int[][] due = {{0, 3}, {7, 3}, {8, 2}, {15, 2}, {16, 1}, {17, 1}, {18, 1}, {19, -1}};
        for (int[] one : due) {
            check.due("at(" + one[0] + ")", sender.house.at(one[0]), one[1]);
        }
    }

    private static void theFirstOfThreeStays(Check check) {
        Sender sender = new Sender();
        sender.middle(1, 1, 8, 0);
        sender.middle(1, 3, 8, 255);
        check.due("over both", sender.middle(1, 0, 40, 7), -1);
        check.due("over all", sender.middle(1, 0, 40, 8), -1);
        check.due("last over the end of it", sender.last(1, 4, 16, 9), 48);
        check.units("behind them", sender.house, 7, 0, 7, 255, 7, 9);
    }
}
