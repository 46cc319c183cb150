/** Promise 1: "Nothing in the tray, nothing in the making, time 0." */
public final class NewObjectTest {
    public static void main(String[] args) {
        Check check = new Check();
        nothingInTheTray(check);
        nothingInTheMaking(check);
        roomForFour(check);
        timeIsZero(check);
        objectsAreApart(check);
        check.finish();
    }

    private static void nothingInTheTray(Check check) {
        check.due("new: end(-1)", new FragmentHouse().end(-1), -1);
        check.due("new: end(0)", new FragmentHouse().end(0), 0);
        check.due("new: end(1)", new FragmentHouse().end(1), -1);
        check.due("new: feed", new FragmentHouse().feed(1, 2, 3, 4, 5), 20);
        check.due("new: take of an empty middle", new FragmentHouse().take(0, 0, 0, 0, false), -2);
        check.due("new: take of an empty last", new FragmentHouse().take(0, 0, 0, 0, true), 0);
    }

    private static void nothingInTheMaking(Check check) {
        FragmentHouse house = new FragmentHouse();
        check.counts("new", house, 0, 0);
        check.due("new: length()", house.length(), -1);
        check.due("new: at(0)", house.at(0), -1);
        check.due("new: pass(2000000000)", house.pass(2000000000), 0);
        // Marks of 0 must not fit anything that a new object holds.
        check.due("new: first of marks 0", new Sender().middle(0, 0, 8, 1), -1);
        check.due("new: last of marks 0", new Sender().last(0, 0, 8, 1), 8);
        check.due("new: last of marks 0, later part", new Sender().last(0, 1, 8, 1), -1);
    }

    private static void roomForFour(Check check) {
        Sender sender = new Sender();
        for (int key = 0; key < 4; key++) {
            check.due("new: first of number " + key, sender.middle(key, 0, 8, 1), -1);
        }
        check.due("new: making()", sender.house.making(), 4);
    }

    private static void timeIsZero(Check check) {
        check.time("new", new FragmentHouse(), 0);
        check.due("new: pass(1)", new FragmentHouse().pass(1), 0);
        Sender sender = new Sender();
        sender.middle(1, 0, 8, 1);
        check.due("begun at time 0: pass(14999)", sender.house.pass(14999), 0);
        check.due("begun at time 0: pass(15000)", sender.house.pass(15000), 1);
    }

    private static void objectsAreApart(Check check) {
        FragmentHouse one = new FragmentHouse();
        FragmentHouse other = new FragmentHouse();
        new Sender(one).last(2, 0, 5, 1);
        new Sender(one).middle(1, 1, 8, 1);
        one.feed(1, 2, 3, 4, 5);
        one.pass(7);
        check.counts("other", other, 0, 0);
        check.due("other: length()", other.length(), -1);
        check.tray("other", other, 0);
        check.time("other", other, 0);
    }
}
