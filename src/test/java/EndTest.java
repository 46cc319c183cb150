/** Promise 3: end. */
public final class EndTest {
    public static void main(String[] args) {
        Check check = new Check();
        cutsTheTray(check);
        refusesWhatIsNotThere(check);
        emptiesTheTray(check);
        check.finish();
    }

    private static void cutsTheTray(Check check) {
        FragmentHouse house = new FragmentHouse();
        house.feed(0x01020304, 0x05060708, 0, 0, 0);
        check.due("end(20) of 20", house.end(20), 20);
        check.due("end(5)", house.end(5), 5);
        check.due("end(6) of 5", house.end(6), -1);
        check.due("end(5) of 5", house.end(5), 5);
        check.due("take", house.take(1, 1, 1, 0, true), 5);
        check.due("at(4)", house.at(4), 5);
        check.due("at(5)", house.at(5), -1);
    }

    private static void refusesWhatIsNotThere(Check check) {
        FragmentHouse house = new FragmentHouse();
        check.due("end(1) of 0", house.end(1), -1);
        house.feed(1, 2, 3, 4, 5);
        int[] refused = {-1, Integer.MIN_VALUE, 21, 1480, 1481, Integer.MAX_VALUE};
        for (int n : refused) {
            check.due("end(" + n + ") of 20", house.end(n), -1);
        }
        check.due("all 20 stayed", house.take(1, 1, 1, 0, true), 20);
        check.due("end(1) behind the take", house.end(1), -1);
        check.due("end(0) behind the take", house.end(0), 0);
    }

    private static void emptiesTheTray(Check check) {
        FragmentHouse house = new FragmentHouse();
        house.feed(1, 2, 3, 4, 5);
        check.due("end(0)", house.end(0), 0);
        check.due("end(1) behind end(0)", house.end(1), -1);
        check.due("feed behind end(0)", house.feed(1, 2, 3, 4, 5), 20);
    }
}
