/** Promise 9: at answers byte i of the latest whole one, "-1 if there is none." */
public final class AtBoundaryTest {
    private static final int[] NEVER_THERE = {
        Integer.MIN_VALUE, Integer.MIN_VALUE + 1, -4096, -2, -1, 4096, 4097, Integer.MAX_VALUE - 1,
        Integer.MAX_VALUE};

    public static void main(String[] args) {
        Check check = new Check();
        beforeTheFirst(check);
        emptyOnes(check);
        for (int length = 1; length <= 25; length++) {
            ofThatLength(check, length);
        }
        largestOne(check);
        bytesAreNeverNegative(check);
        staysTillTheNext(check);
        shorterOnesHideTheLonger(check);
        changesNothing(check);
        check.finish();
    }

    private static void nothingAt(Check check, String when, FragmentHouse house, int... places) {
        for (int place : places) {
            check.due(when + ": at(" + place + ")", house.at(place), -1);
        }
        for (int place : NEVER_THERE) {
            check.due(when + ": at(" + place + ")", house.at(place), -1);
        }
    }

    private static void beforeTheFirst(Check check) {
        Sender sender = new Sender();
        nothingAt(check, "new", sender.house, 0, 1, 4095);
        sender.house.feed(1, 2, 3, 4, 5);
        nothingAt(check, "with a tray", sender.house, 0, 1, 19, 20);
        sender.house.end(8);
        sender.house.take(1, 1, 1, 0, false);
        nothingAt(check, "with one in the making", sender.house, 0, 7, 8);
        sender.last(2, 1, 8, 1);
        nothingAt(check, "with one whose end is known", sender.house, 0, 8, 15, 16);
        sender.last(1, 0, 7, 1);
        nothingAt(check, "behind a contradiction", sender.house, 0, 6, 7);
        sender.house.pass(15000);
        nothingAt(check, "behind one too late", sender.house, 0, 8, 15);
    }

    private static void emptyOnes(Check check) {
        FragmentHouse house = new FragmentHouse();
        house.take(1, 1, 1, 0, true);
        nothingAt(check, "an empty one", house, 0, 1, 4095);
        house.take(1, 1, 1, 0, true);
        nothingAt(check, "another empty one", house, 0, 1, 4095);
    }

    private static void ofThatLength(Check check, int length) {
        FragmentHouse house = new FragmentHouse();
        house.feed(0x01020304, 0x05060708, 0x090a0b0c, 0x0d0e0f10, 0x11121314);
        house.feed(0x15161718, 0x19000000, 0, 0, 0);
        house.end(length);
        house.take(1, 1, 1, 0, true);
        String name = "one of " + length;
        for (int i = 0; i < length; i++) {
            check.due(name + ": at(" + i + ")", house.at(i), i + 1);
        }
        nothingAt(check, name, house, length, length + 1, 4095);
    }

    private static void largestOne(Check check) {
        FragmentHouse shorter = largeOne(1135);
        check.due("one of 4095: at(4094)", shorter.at(4094), 3);
        nothingAt(check, "one of 4095", shorter, 4095);
        FragmentHouse largest = largeOne(1136);
        check.due("one of 4096: at(0)", largest.at(0), 1);
        check.due("one of 4096: at(4094)", largest.at(4094), 3);
        check.due("one of 4096: at(4095)", largest.at(4095), 3);
        nothingAt(check, "one of 4096", largest);
    }

    private static FragmentHouse largeOne(int lastCount) {
        Sender sender = new Sender();
        sender.middle(1, 0, 1480, 1);
        sender.middle(1, 185, 1480, 2);
        sender.last(1, 370, lastCount, 3);
        return sender.house;
    }

    private static void bytesAreNeverNegative(Check check) {
        for (int worth = 0; worth < 256; worth++) {
            Sender sender = new Sender();
            sender.last(1, 0, 2, worth);
            check.due("byte " + worth + " at 0", sender.house.at(0), worth);
            check.due("byte " + worth + " at 1", sender.house.at(1), worth);
        }
    }

    private static void staysTillTheNext(Check check) {
        Sender sender = new Sender();
        sender.last(1, 0, 8, 1);
        for (int key = 1; key <= 4; key++) {
            sender.middle(key, 0, 16, 50 + key);
            check.units("behind the first of " + key, sender.house, 1);
        }
        sender.last(2, 0, 1, 0);
        sender.middle(6, 0, 24, 60);
        check.units("behind a contradiction", sender.house, 1);
        sender.house.pass(15000);
        check.units("behind their time", sender.house, 1);
        nothingAt(check, "behind their time", sender.house, 8);
        sender.last(7, 0, 16, 2);
        check.units("the next", sender.house, 2, 2);
    }

    private static void shorterOnesHideTheLonger(Check check) {
        Sender sender = new Sender();
        sender.last(1, 0, 20, 1);
        sender.last(1, 0, 3, 2);
        check.due("at(2) of 3", sender.house.at(2), 2);
        nothingAt(check, "3 behind 20", sender.house, 3, 4, 19, 20);
        sender.last(1, 0, 0, 2);
        nothingAt(check, "none behind 3", sender.house, 0, 2, 3);
        sender.last(1, 0, 1, 4);
        check.due("at(0) of 1", sender.house.at(0), 4);
        nothingAt(check, "1 behind none", sender.house, 1, 2);
    }

    private static void changesNothing(Check check) {
        int[] places = {Integer.MIN_VALUE, -1, 11, 12, 4096, Integer.MAX_VALUE};
        for (int i : places) {
            KnownState.refuses(check, "at(" + i + ")", 13, -1, house -> house.at(i));
        }
    }
}
