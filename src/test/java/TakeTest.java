/** Promise 4: take, on ordinary ways; the boundaries that the Terms name have tests of their own. */
public final class TakeTest {
    public static void main(String[] args) {
        Check check = new Check();
        anyOrder(check);
        doubledFragments(check);
        droppedBeginsAnew(check);
        manyUseTheSameRoom(check);
        check.finish();
    }

    private static void anyOrder(Check check) {
        int[][] orders = {{0, 1, 2}, {0, 2, 1}, {1, 0, 2}, {1, 2, 0}, {2, 0, 1}, {2, 1, 0}};
        for (int[] order : orders) {
            FragmentHouse house = new FragmentHouse();
            Sender sender = new Sender(house);
            for (int k = 0; k < 3; k++) {
                int part = order[k];
                int got = part == 2 ? sender.last(1, 2, 3, 22) : sender.middle(1, part, 8, 20 + part);
                check.due("part " + part + " as number " + k, got, k == 2 ? 19 : -1);
            }
            check.due("at(0)", house.at(0), 20);
            check.due("at(7)", house.at(7), 20);
            check.due("at(8)", house.at(8), 21);
            check.due("at(16)", house.at(16), 22);
            check.due("at(18)", house.at(18), 22);
            check.due("at(19)", house.at(19), -1);
        }
    }

    private static void doubledFragments(Check check) {
        Sender sender = new Sender();
        check.due("middle", sender.middle(1, 1, 8, 1), -1);
        check.due("the same again", sender.middle(1, 1, 8, 1), -1);
        check.due("last", sender.last(1, 2, 8, 2), -1);
        check.due("the same again", sender.last(1, 2, 8, 2), -1);
        check.due("first", sender.middle(1, 0, 8, 4), 24);
        check.units("behind them", sender.house, 4, 1, 2);
    }

    private static void droppedBeginsAnew(Check check) {
        Sender sender = new Sender();
        sender.middle(1, 0, 8, 1);
        sender.middle(1, 4, 8, 1);
        check.due("contradiction", sender.last(1, 1, 8, 1), -3);
        check.due("last part of a new one", sender.last(1, 1, 8, 2), -1);
        check.due("first part of the new one", sender.middle(1, 0, 8, 3), 16);
        check.units("the new one", sender.house, 3, 2);
    }

    /** One behind the other, each with other bytes: nothing of an earlier one shows through. */
    private static void manyUseTheSameRoom(Check check) {
        Sender sender = new Sender();
        for (int k = 0; k < 20; k++) {
            int length = 16 + (20 - k) % 3;
            check.due("last of " + k, sender.last(k, 1, length - 8, 100 + k), -1);
            check.due("first of " + k, sender.middle(k, 0, 8, 200 + k), length);
            check.due("at(7) of " + k, sender.house.at(7), 200 + k);
            check.due("at(8) of " + k, sender.house.at(8), 100 + k);
            check.due("at its end of " + k, sender.house.at(length), -1);
        }
        check.counts("behind them all", sender.house, 0, 20);
    }
}
