/** Promise 8: length answers the length of the latest whole one, "-1 if there was none." */
public final class LengthBoundaryTest {
    public static void main(String[] args) {
        Check check = new Check();
        noneSoFar(check);
        everySmallLength(check);
        largestLengths(check);
        staysTillTheNext(check);
        longerAndShorterOnes(check);
        check.finish();
    }

    private static void noneSoFar(Check check) {
        Sender sender = new Sender();
        FragmentHouse house = sender.house;
        check.due("new", house.length(), -1);
        sender.middle(1, 0, 8, 1);
        check.due("one in the making", house.length(), -1);
        sender.last(2, 1, 8, 1);
        check.due("one whose end is known", house.length(), -1);
        sender.last(1, 0, 7, 1);
        check.due("one contradicted", house.length(), -1);
        sender.last(3, 512, 1, 1);
        check.due("a dropped fragment", house.length(), -1);
        house.take(3, 3, 3, -1, true);
        check.due("a refused call", house.length(), -1);
        house.pass(15000);
        check.due("one too late", house.length(), -1);
    }

    private static void everySmallLength(Check check) {
        for (int length = 0; length <= 25; length++) {
            Sender sender = new Sender();
            check.due("whole of " + length, sender.last(1, 0, length, 1), length);
            check.due("length() of " + length, sender.house.length(), length);
            check.due("length() of " + length + " once more", sender.house.length(), length);
        }
    }

    private static void largestLengths(Check check) {
        int[] rest = {1135, 1136};
        for (int count : rest) {
            Sender sender = new Sender();
            sender.middle(1, 0, 1480, 1);
            sender.middle(1, 185, 1480, 1);
            check.due("before the last", sender.house.length(), -1);
            check.due("whole of " + (2960 + count), sender.last(1, 370, count, 1), 2960 + count);
            check.due("length()", sender.house.length(), 2960 + count);
        }
    }

    private static void staysTillTheNext(Check check) {
        Sender sender = new Sender();
        sender.last(1, 0, 9, 1);
        for (int key = 1; key <= 4; key++) {
            sender.last(key, 1, 16, 50 + key);
            check.due("behind the end of " + key, sender.house.length(), 9);
        }
        sender.last(2, 0, 1, 0);
        check.due("behind a contradiction", sender.house.length(), 9);
        sender.middle(6, 0, 24, 60);
        check.due("with four others", sender.house.length(), 9);
        sender.house.pass(15000);
        check.due("behind their time", sender.house.length(), 9);
        sender.last(7, 0, 10, 2);
        check.due("the next", sender.house.length(), 10);
    }

    private static void longerAndShorterOnes(Check check) {
        Sender sender = new Sender();
        int[] lengths = {20, 3, 0, 1, 0, 40, 39};
        for (int length : lengths) {
            sender.last(1, 0, length, 1);
            check.due("one of " + length, sender.house.length(), length);
        }
    }
}
