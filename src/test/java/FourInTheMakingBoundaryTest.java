/** Promise 4, Terms: "At most 4 are in the making: a fragment that would begin a fifth is dropped." */
public final class FourInTheMakingBoundaryTest {
    public static void main(String[] args) {
        Check check = new Check();
        upToFour(check);
        everyKindOfFifth(check);
        oneMarkMakesAFifth(check);
        theFourGoOn(check);
        roomBehindAWhole(check);
        roomBehindAContradiction(check);
        roomBehindTime(check);
        nothingOfTheFifthIsKept(check);
        check.finish();
    }

    private static Sender withFour() {
        Sender sender = new Sender();
        for (int key = 1; key <= 4; key++) {
            sender.middle(key, 0, 8, key);
        }
        return sender;
    }

    private static void upToFour(Check check) {
        Sender sender = new Sender();
        int[] answers = {-1, -1, -1, -1, -2, -2};
        for (int k = 0; k < answers.length; k++) {
            check.due("first of number " + (k + 1), sender.middle(k, 1, 8, 1), answers[k]);
            check.due("making behind it", sender.house.making(), Math.min(k + 1, 4));
            check.tray("behind it", sender.house, 0);
        }
    }

    private static void everyKindOfFifth(Check check) {
        Sender sender = withFour();
        check.due("a middle", sender.middle(5, 0, 8, 5), -2);
        check.due("a last that waits for others", sender.last(5, 1, 8, 5), -2);
        check.due("one that would be whole at once", sender.last(5, 0, 8, 5), -2);
        check.due("an empty one", sender.last(5, 0, 0, 5), -2);
        check.tray("behind them", sender.house, 0);
        check.counts("behind them", sender.house, 4, 0);
        check.due("length()", sender.house.length(), -1);
    }

    private static void oneMarkMakesAFifth(Check check) {
        Sender sender = withFour();
        int[][] marks = {{1, 1, 2}, {1, 2, 1}, {2, 1, 1}, {1, 2, 3}};
        for (int[] mark : marks) {
            sender.fillTray(8, 1);
            check.due("first of a fifth", sender.house.take(mark[0], mark[1], mark[2], 1, false), -2);
        }
        check.due("making", sender.house.making(), 4);
    }

    private static void theFourGoOn(Check check) {
        Sender sender = withFour();
        check.due("a fifth", sender.middle(5, 0, 8, 5), -2);
        for (int key = 1; key <= 4; key++) {
            check.due("more of " + key, sender.middle(key, 1, 8, 10 + key), -1);
        }
        check.due("making", sender.house.making(), 4);
        for (int key = 4; key >= 1; key--) {
            check.due("the last of " + key, sender.last(key, 2, 8, 20 + key), 24);
            check.units("number " + key, sender.house, key, 10 + key, 20 + key);
        }
        check.counts("all four whole", sender.house, 0, 4);
    }

    private static void hasRoomForOne(Check check, String when, Sender sender) {
        check.due(when + ": making", sender.house.making(), 3);
        check.due(when + ": now the fifth has room", sender.middle(5, 0, 8, 5), -1);
        check.due(when + ": a sixth has none", sender.middle(6, 0, 8, 6), -2);
        check.due(when + ": making behind them", sender.house.making(), 4);
    }

    private static void roomBehindAWhole(Check check) {
        for (int key = 1; key <= 4; key++) {
            Sender sender = withFour();
            check.due("number " + key + " is whole", sender.last(key, 1, 1, 1), 9);
            hasRoomForOne(check, "number " + key + " whole", sender);
        }
    }

    private static void roomBehindAContradiction(Check check) {
        for (int key = 1; key <= 4; key++) {
            Sender sender = withFour();
            check.due("number " + key + " is contradicted", sender.last(key, 0, 7, 1), -3);
            hasRoomForOne(check, "number " + key + " contradicted", sender);
        }
    }

    private static void roomBehindTime(Check check) {
        Sender sender = new Sender();
        sender.middle(1, 0, 8, 1);
        sender.house.pass(1);
        for (int key = 2; key <= 4; key++) {
            sender.middle(key, 0, 8, 1);
        }
        check.due("pass(14999)", sender.house.pass(14999), 0);
        check.due("a fifth", sender.middle(5, 0, 8, 5), -2);
        check.due("pass(15000)", sender.house.pass(15000), 1);
        hasRoomForOne(check, "the first too late", sender);
    }

    private static void nothingOfTheFifthIsKept(Check check) {
        Sender sender = withFour();
        check.due("first part of a fifth", sender.middle(5, 0, 16, 5), -2);
        check.due("last part of a fifth", sender.last(5, 3, 1, 5), -2);
        sender.last(1, 1, 1, 1);
        check.due("another end is no contradiction", sender.last(5, 1, 8, 6), -1);
        check.due("its first part again", sender.middle(5, 0, 8, 7), 16);
        check.units("the fifth", sender.house, 7, 6);
    }
}
