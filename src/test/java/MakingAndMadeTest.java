/** Promises 6 and 7: making and made. */
public final class MakingAndMadeTest {
    public static void main(String[] args) {
        Check check = new Check();
        countsThroughALife(check);
        refusedCallsChangeNothing(check);
        manyMade(check);
        check.finish();
    }

    private static void counts(Check check, String when, FragmentHouse house, int making, int made) {
        check.due(when + ": making()", house.making(), making);
        check.due(when + ": made()", house.made(), made);
    }

    private static void countsThroughALife(Check check) {
        FragmentHouse house = new FragmentHouse();
        Sender sender = new Sender(house);
        counts(check, "new", house, 0, 0);
        sender.middle(1, 0, 8, 1);
        counts(check, "first begun", house, 1, 0);
        sender.middle(1, 1, 8, 1);
        counts(check, "more of the first", house, 1, 0);
        sender.middle(2, 0, 8, 1);
        counts(check, "second begun", house, 2, 0);
        sender.last(3, 0, 5, 1);
        counts(check, "third whole at once", house, 2, 1);
        sender.last(1, 2, 5, 1);
        counts(check, "first whole", house, 1, 2);
        sender.middle(4, 0, 7, 1);
        counts(check, "an unsound one", house, 1, 2);
        sender.last(2, 0, 1, 1);
        counts(check, "second contradicted", house, 0, 2);
        sender.middle(5, 0, 8, 1);
        house.pass(15000);
        counts(check, "fifth too late", house, 0, 2);
    }

    private static void refusedCallsChangeNothing(Check check) {
        FragmentHouse house = new FragmentHouse();
        Sender sender = new Sender(house);
        sender.last(1, 0, 4, 1);
        sender.middle(2, 0, 8, 1);
        house.take(3, 3, 3, -1, true);
        house.take(3, 3, 3, 8192, true);
        house.pass(-1);
        house.pass(2000000001);
        house.end(1);
        counts(check, "refused calls", house, 1, 1);
        check.due("length()", house.length(), 4);
        check.due("time stayed", house.pass(1), 0);
    }

    private static void manyMade(Check check) {
        FragmentHouse house = new FragmentHouse();
        for (int k = 1; k <= 250; k++) {
            house.take(k, 0, 0, 0, true);
            check.due("made behind " + k, house.made(), k);
        }
        check.due("making", house.making(), 0);
    }
}
