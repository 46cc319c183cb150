/** Promise 6: making. "How many datagrams are in the making." */
public final class MakingBoundaryTest {
    public static void main(String[] args) {
        Check check = new Check();
        beforeTheFirst(check);
        upToFour(check);
        behindAWhole(check);
        behindAContradiction(check);
        behindTime(check);
        behindADroppedFragment(check);
        behindRefusedCalls(check);
        check.finish();
    }

    private static Sender with(int count) {
        Sender sender = new Sender();
        for (int key = 1; key <= count; key++) {
            sender.middle(key, 0, 8, key);
        }
        return sender;
    }

    private static void beforeTheFirst(Check check) {
        FragmentHouse house = new FragmentHouse();
        check.due("new", house.making(), 0);
        house.feed(1, 2, 3, 4, 5);
        check.due("with a tray", house.making(), 0);
        house.pass(100);
        check.due("as time goes on", house.making(), 0);
    }

    private static void upToFour(Check check) {
        for (int count = 0; count <= 4; count++) {
            Sender sender = with(count);
            check.due("with " + count, sender.house.making(), count);
            check.due("with " + count + " once more", sender.house.making(), count);
            sender.middle(1, 1, 8, 1);
            check.due("more of the first of " + count, sender.house.making(), Math.max(1, count));
        }
        Sender sender = with(4);
        sender.middle(5, 0, 8, 1);
        check.due("behind a fifth", sender.house.making(), 4);
    }

    private static void behindAWhole(Check check) {
        for (int count = 1; count <= 4; count++) {
            Sender sender = with(count);
            for (int key = 1; key <= count; key++) {
                check.due("last of " + key, sender.last(key, 1, 0, 0), 8);
                check.due("whole " + key + " of " + count, sender.house.making(), count - key);
            }
        }
        Sender sender = with(3);
        sender.last(9, 0, 5, 1);
        check.due("behind one that was whole at once", sender.house.making(), 3);
        sender.last(9, 0, 0, 1);
        check.due("behind an empty one", sender.house.making(), 3);
    }

    private static void behindAContradiction(Check check) {
        for (int count = 1; count <= 4; count++) {
            Sender sender = with(count);
            for (int key = count; key >= 1; key--) {
                check.due("contradiction of " + key, sender.last(key, 0, 0, 0), -3);
                check.due("contradicted " + key + " of " + count, sender.house.making(), key - 1);
            }
        }
    }

    private static void behindTime(Check check) {
        Sender sender = with(2);
        sender.house.pass(10);
        sender.middle(3, 0, 8, 3);
        sender.house.pass(14999);
        check.due("at 14999", sender.house.making(), 3);
        sender.house.pass(15000);
        check.due("at 15000", sender.house.making(), 1);
        sender.house.pass(15010);
        check.due("at 15010", sender.house.making(), 0);
    }

    private static void behindADroppedFragment(Check check) {
        for (int count = 0; count <= 4; count++) {
            Sender sender = with(count);
            sender.middle(1, 0, 7, 1);
            sender.middle(8, 0, 7, 1);
            sender.last(1, 512, 1, 1);
            sender.last(8, 512, 1, 1);
            check.due("dropped ones with " + count, sender.house.making(), count);
        }
    }

    private static void behindRefusedCalls(Check check) {
        Sender sender = with(2);
        sender.fillTray(8, 1);
        sender.house.take(8, 8, 8, -1, false);
        sender.house.take(1, 1, 1, 8192, true);
        sender.house.pass(-1);
        sender.house.pass(2000000001);
        sender.house.end(9);
        check.due("behind refused calls", sender.house.making(), 2);
    }
}
