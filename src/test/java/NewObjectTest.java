/** Promise 1: a new object. */
public final class NewObjectTest {
    public static void main(String[] args) {
        Check check = new Check();
        nothingInTheTray(check);
        nothingInTheMaking(check);
        timeIsZero(check);
        objectsAreApart(check);
        check.finish();
    }

    private static void nothingInTheTray(Check check) {
        check.due("new: end(1)", new FragmentHouse().end(1), -1);
        check.due("new: end(0)", new FragmentHouse().end(0), 0);
        check.due("new: feed", new FragmentHouse().feed(1, 2, 3, 4, 5), 20);
        check.due("new: take of an empty middle", new FragmentHouse().take(0, 0, 0, 0, false), -2);
        check.due("new: take of an empty last", new FragmentHouse().take(0, 0, 0, 0, true), 0);
    }

    private static void nothingInTheMaking(Check check) {
        FragmentHouse house = new FragmentHouse();
        check.due("new: making()", house.making(), 0);
        check.due("new: made()", house.made(), 0);
        check.due("new: length()", house.length(), -1);
        check.due("new: at(0)", house.at(0), -1);
        check.due("new: pass(2000000000)", house.pass(2000000000), 0);
        // Marks of 0 must not fit anything that a new object holds.
        check.due("new: first of marks 0", new Sender(new FragmentHouse()).middle(0, 0, 8, 1), -1);
    }

    private static void timeIsZero(Check check) {
        check.due("new: pass(-1)", new FragmentHouse().pass(-1), -1);
        check.due("new: pass(0)", new FragmentHouse().pass(0), 0);
        FragmentHouse house = new FragmentHouse();
        new Sender(house).middle(1, 0, 8, 1);
        check.due("begun at time 0: pass(14999)", house.pass(14999), 0);
        check.due("begun at time 0: pass(15000)", house.pass(15000), 1);
    }

    private static void objectsAreApart(Check check) {
        FragmentHouse one = new FragmentHouse();
        FragmentHouse other = new FragmentHouse();
        new Sender(one).middle(1, 1, 8, 1);
        one.feed(1, 2, 3, 4, 5);
        one.pass(7);
        check.due("other: making()", other.making(), 0);
        check.due("other: end(1)", other.end(1), -1);
        check.due("other: pass(6)", other.pass(6), 0);
    }
}
