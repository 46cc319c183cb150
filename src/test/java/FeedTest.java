/** Promise 2: feed. "The twenty bytes of five ints, the highest first, go into the tray." */
public final class FeedTest {
    private static final int[] WORTHS = {
        Integer.MIN_VALUE, Integer.MIN_VALUE + 1, -256, -129, -128, -1, 0, 1, 127, 128, 255, 256,
        0x00ff00ff, 0xff00ff00, 0x01020304, 0x7f80feff, Integer.MAX_VALUE - 1, Integer.MAX_VALUE};

    public static void main(String[] args) {
        Check check = new Check();
        highestByteFirst(check);
        intsOfAnyWorth(check);
        goesOnBehindTheEnd(check);
        check.finish();
    }

    private static void highestByteFirst(Check check) {
        FragmentHouse house = new FragmentHouse();
        house.feed(0x00010203, 0x7f80feff, 0xfffefdfc, 0x80000000, 0x10203040);
        int[] want = {0, 1, 2, 3, 0x7f, 0x80, 0xfe, 0xff, 0xff, 0xfe, 0xfd, 0xfc,
            0x80, 0, 0, 0, 0x10, 0x20, 0x30, 0x40};
        check.due("take of 20 bytes", house.take(1, 1, 1, 0, true), 20);
        for (int i = 0; i < want.length; i++) {
            check.due("at(" + i + ")", house.at(i), want[i]);
        }
    }

    /** Every worth at every one of the five places, the other four all ones or all zeroes. */
    private static void intsOfAnyWorth(Check check) {
        for (int worth : WORTHS) {
            for (int place = 0; place < 5; place++) {
                worthAt(check, worth, place, 0);
                worthAt(check, worth, place, -1);
            }
        }
    }

    private static void worthAt(Check check, int worth, int place, int rest) {
        int[] words = {rest, rest, rest, rest, rest};
        words[place] = worth;
        String name = "feed of " + worth + " at place " + place + " among " + rest;
        FragmentHouse house = new FragmentHouse();
        check.due(name, house.feed(words[0], words[1], words[2], words[3], words[4]), 20);
        check.due(name + ": take", house.take(1, 1, 1, 0, true), 20);
        for (int i = 0; i < 20; i++) {
            int due = (int) (((words[i / 4] & 0xffffffffL) >> (24 - i % 4 * 8)) % 256);
            check.due(name + ": at(" + i + ")", house.at(i), due);
        }
    }

    private static void goesOnBehindTheEnd(Check check) {
        FragmentHouse house = new FragmentHouse();
        house.feed(0x01020304, 0, 0, 0, 0);
        house.end(3);
        check.due("feed behind end(3)", house.feed(0x05060708, 0, 0, 0, 0x090a0b0c), 23);
        check.due("take", house.take(1, 1, 1, 0, true), 23);
        check.due("at(2)", house.at(2), 3);
        check.due("at(3)", house.at(3), 5);
        check.due("at(22)", house.at(22), 12);
    }
}
