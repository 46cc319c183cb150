/** Promise 7: made. "How many were whole so far." */
public final class MadeBoundaryTest {
    public static void main(String[] args) {
        Check check = new Check();
        beforeTheFirst(check);
        withFourInTheMaking(check);
        behindDropped(check);
        emptyOnesCount(check);
        manyMade(check);
        behindRefusedCalls(check);
        check.finish();
    }

    private static void beforeTheFirst(Check check) {
        Sender sender = new Sender();
        check.due("new", sender.house.made(), 0);
        sender.middle(1, 0, 8, 1);
        check.due("one begun", sender.house.made(), 0);
        sender.last(1, 2, 8, 1);
        check.due("its end known", sender.house.made(), 0);
        sender.middle(1, 1, 8, 1);
        check.due("it is whole", sender.house.made(), 1);
        check.due("looked at once more", sender.house.made(), 1);
    }

    private static void withFourInTheMaking(Check check) {
        Sender sender = new Sender();
        for (int key = 1; key <= 4; key++) {
            sender.middle(key, 0, 8, 1);
        }
        check.due("four in the making", sender.house.made(), 0);
        sender.last(5, 0, 8, 1);
        check.due("behind a fifth", sender.house.made(), 0);
        for (int key = 1; key <= 4; key++) {
            sender.last(key, 1, key, 1);
            check.due("whole up to " + key, sender.house.made(), key);
        }
    }

    private static void behindDropped(Check check) {
        Sender sender = new Sender();
        sender.last(1, 0, 3, 1);
        sender.middle(1, 0, 8, 1);
        sender.last(1, 0, 3, 1);
        check.due("behind a contradiction", sender.house.made(), 1);
        sender.middle(1, 0, 7, 1);
        check.due("behind a dropped fragment", sender.house.made(), 1);
        sender.middle(1, 0, 8, 1);
        sender.house.pass(15000);
        check.due("behind one too late", sender.house.made(), 1);
        sender.last(1, 0, 3, 1);
        check.due("behind another whole one", sender.house.made(), 2);
    }

    private static void emptyOnesCount(Check check) {
        FragmentHouse house = new FragmentHouse();
        house.take(1, 1, 1, 0, true);
        check.due("an empty one", house.made(), 1);
        house.take(1, 1, 1, 0, true);
        check.due("an empty one of the same marks", house.made(), 2);
    }

    /** As many as 512 calls can make, but for the looks in between. */
    private static void manyMade(Check check) {
        FragmentHouse house = new FragmentHouse();
        for (int k = 1; k <= 500; k++) {
            house.take(k, 0, 0, 0, true);
            if (k % 100 == 0) {
                check.due("made behind " + k, house.made(), k);
            }
        }
        check.due("making", house.making(), 0);
    }

    private static void behindRefusedCalls(Check check) {
        Sender sender = new Sender();
        sender.last(1, 0, 4, 1);
        sender.fillTray(8, 1);
        sender.house.take(2, 2, 2, -1, true);
        sender.house.take(2, 2, 2, 8192, true);
        sender.house.pass(2000000001);
        sender.house.end(9);
        check.due("behind refused calls", sender.house.made(), 1);
    }
}
