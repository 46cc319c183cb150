/** Promise 5: pass, with the term of time. */
public final class PassTest {
    public static void main(String[] args) {
        Check check = new Check();
        doesNotGoBack(check);
        edgeOfTheLifetime(check);
        firstFragmentCounts(check);
        dropsAllThatAreDue(check);
        droppedMakesRoom(check);
        beginsAnewAtItsOwnTime(check);
        latestTime(check);
        wholeOneStays(check);
        check.finish();
    }

    private static void doesNotGoBack(Check check) {
        FragmentHouse house = new FragmentHouse();
        int[] refusedAtFirst = {-1, Integer.MIN_VALUE, 2000000001, Integer.MAX_VALUE};
        for (int t : refusedAtFirst) {
            check.due("pass(" + t + ")", house.pass(t), -1);
        }
        check.due("pass(0)", house.pass(0), 0);
        check.due("pass(100)", house.pass(100), 0);
        check.due("pass(99)", house.pass(99), -1);
        check.due("pass(100) again", house.pass(100), 0);
        check.due("pass(101)", house.pass(101), 0);
    }

    private static void edgeOfTheLifetime(Check check) {
        FragmentHouse house = new FragmentHouse();
        house.pass(10);
        new Sender(house).middle(1, 0, 8, 1);
        check.due("pass(15009)", house.pass(15009), 0);
        check.due("refused pass(2000000001)", house.pass(2000000001), -1);
        check.due("still in the making", house.making(), 1);
        check.due("pass(15010)", house.pass(15010), 1);
        check.due("making", house.making(), 0);
        check.due("pass(15010) again", house.pass(15010), 0);
    }

    private static void firstFragmentCounts(Check check) {
        FragmentHouse house = new FragmentHouse();
        Sender sender = new Sender(house);
        check.due("dropped, so not the first", sender.middle(1, 0, 7, 1), -2);
        house.pass(5);
        sender.middle(1, 0, 8, 1);
        house.pass(10000);
        sender.middle(1, 1, 8, 1);
        check.due("pass(15004)", house.pass(15004), 0);
        check.due("pass(15005)", house.pass(15005), 1);
    }

    private static void dropsAllThatAreDue(Check check) {
        FragmentHouse house = new FragmentHouse();
        Sender sender = new Sender(house);
        for (int key = 0; key < 4; key++) {
            house.pass(key * 10);
            sender.middle(key, 0, 8, key);
        }
        check.due("pass(15010)", house.pass(15010), 2);
        check.due("making", house.making(), 2);
        check.due("one that stayed is gone on with", sender.last(3, 1, 1, 3), 9);
        check.due("pass(15029)", house.pass(15029), 1);
        check.due("pass(2000000000)", house.pass(2000000000), 0);
    }

    private static void droppedMakesRoom(Check check) {
        FragmentHouse house = new FragmentHouse();
        Sender sender = new Sender(house);
        for (int key = 0; key < 4; key++) {
            sender.middle(key, 0, 8, key);
        }
        check.due("a fifth", sender.middle(4, 0, 8, 4), -2);
        house.feed(1, 2, 3, 4, 5);
        check.due("pass(1999999999)", house.pass(1999999999), 4);
        check.due("the tray stays", house.end(20), 20);
        house.end(0);
        check.due("the fifth now", sender.middle(4, 0, 8, 4), -1);
        check.due("making", house.making(), 1);
    }

    private static void beginsAnewAtItsOwnTime(Check check) {
        FragmentHouse house = new FragmentHouse();
        Sender sender = new Sender(house);
        sender.last(1, 1, 8, 1);
        check.due("pass(15000)", house.pass(15000), 1);
        check.due("its first part begins a new one", sender.middle(1, 0, 8, 2), -1);
        check.due("another end is no contradiction", sender.last(1, 2, 1, 3), -1);
        check.due("pass(29999)", house.pass(29999), 0);
        check.due("the old one's bytes are gone", sender.middle(1, 1, 8, 4), 17);
        check.due("at(8)", house.at(8), 4);
    }

    private static void latestTime(Check check) {
        FragmentHouse house = new FragmentHouse();
        Sender sender = new Sender(house);
        house.pass(1999985000);
        sender.middle(1, 0, 8, 1);
        house.pass(1999985001);
        sender.middle(2, 0, 8, 1);
        check.due("pass(1999999999)", house.pass(1999999999), 0);
        check.due("pass(2000000000)", house.pass(2000000000), 1);
        sender.middle(3, 0, 8, 1);
        check.due("pass(2000000000) again", house.pass(2000000000), 0);
        check.due("making", house.making(), 2);
    }

    private static void wholeOneStays(Check check) {
        FragmentHouse house = new FragmentHouse();
        new Sender(house).last(1, 0, 3, 6);
        check.due("pass(15000)", house.pass(15000), 0);
        check.due("length", house.length(), 3);
        check.due("at(2)", house.at(2), 6);
        check.due("made", house.made(), 1);
    }
}
