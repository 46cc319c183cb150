/** Promise 3: end. "Only the first n bytes of the tray count." */
public final class EndTest {
    public static void main(String[] args) {
        Check check = new Check();
        firstBytesCount(check);
        whatIsCutOffIsGone(check);
        check.finish();
    }

    private static void firstBytesCount(Check check) {
        FragmentHouse house = new FragmentHouse();
        house.feed(0x01020304, 0x05060708, 0, 0, 0);
        check.due("end(5)", house.end(5), 5);
        check.due("take", house.take(1, 1, 1, 0, true), 5);
        for (int i = 0; i < 5; i++) {
            check.due("at(" + i + ")", house.at(i), i + 1);
        }
        check.due("at(5)", house.at(5), -1);
    }

    private static void whatIsCutOffIsGone(Check check) {
        FragmentHouse house = new FragmentHouse();
        house.feed(-1, -1, -1, -1, -1);
        check.due("end(0)", house.end(0), 0);
        check.due("end(1) behind end(0)", house.end(1), -1);
        check.due("feed behind end(0)", house.feed(0, 0, 0, 0, 0x01020304), 20);
        check.due("take", house.take(1, 1, 1, 0, true), 20);
        check.due("at(0)", house.at(0), 0);
        check.due("at(19)", house.at(19), 4);
    }
}
