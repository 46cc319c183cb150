/** Promise 2: feed. */
public final class FeedTest {
    public static void main(String[] args) {
        Check check = new Check();
        highestByteFirst(check);
        growsUpToTheRoom(check);
        refusesWhatDoesNotFit(check);
        goesOnBehindTheEnd(check);
        check.finish();
    }

    private static void highestByteFirst(Check check) {
        FragmentHouse house = new FragmentHouse();
        house.feed(0x00010203, 0x7f80feff, 0xfffefdfc, 0x80000000, 0x10203040);
        int[] want = {0, 1, 2, 3, 0x7f, 0x80, 0xfe, 0xff, 0xff, 0xfe, 0xfd, 0xfc,
            0x80, 0, 0, 0, 0x10, 0x20, 0x30, 0x40};
        check.due("take of 20 bytes", house.take(1, 1, 1, 0, true), 20);
        for (int i = 0; i < want.length; i++) {
            check.due("at(" + i + ")", house.at(i), want[i]);
        }
    }

    private static void growsUpToTheRoom(Check check) {
        FragmentHouse house = new FragmentHouse();
        for (int fed = 20; fed <= 1480; fed += 20) {
            check.due("feed up to " + fed, house.feed(fed, fed, fed, fed, fed), fed);
        }
        check.due("feed of a full tray", house.feed(-1, -1, -1, -1, -1), -1);
        check.due("take of a full tray", house.take(1, 1, 1, 0, true), 1480);
        check.due("low byte of the last word", house.at(1479), 1480 & 0xff);
        check.due("low byte of the first word", house.at(3), 20);
        check.due("feed behind the take", house.feed(0, 0, 0, 0, 0), 20);
    }

    private static void refusesWhatDoesNotFit(Check check) {
        FragmentHouse house = new FragmentHouse();
        new Sender(house).fillTray(1461, 5);
        check.due("feed of 20 to 1461", house.feed(-1, -1, -1, -1, -1), -1);
        check.due("the 1461 are still there", house.end(1461), 1461);
        check.due("and no more than they", house.end(1462), -1);
        check.due("cut to 1460", house.end(1460), 1460);
        check.due("feed of 20 to 1460", house.feed(9, 9, 9, 9, 9), 1480);
        check.due("take", house.take(1, 1, 1, 0, true), 1480);
        check.due("at(1459)", house.at(1459), 5);
        check.due("at(1460)", house.at(1460), 0);
        check.due("at(1479)", house.at(1479), 9);
    }

    private static void goesOnBehindTheEnd(Check check) {
        FragmentHouse house = new FragmentHouse();
        house.feed(0x01020304, 0, 0, 0, 0);
        house.end(3);
        check.due("feed behind end(3)", house.feed(0x05060708, 0, 0, 0, 0x090a0b0c), 23);
        check.due("take", house.take(1, 1, 1, 0, true), 23);
        check.due("at(2)", house.at(2), 3);
        check.due("at(3)", house.at(3), 5);
        check.due("at(22)", house.at(22), 12);
    }
}
