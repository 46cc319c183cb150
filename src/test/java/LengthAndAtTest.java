/** Promises 8 and 9: length and at. */
public final class LengthAndAtTest {
    private static final int[] NEVER_THERE = {-1, Integer.MIN_VALUE, 4096, Integer.MAX_VALUE};

    public static void main(String[] args) {
        Check check = new Check();
        noneSoFar(check);
        emptyOne(check);
        edgesOfTheWhole(check);
        bytesAreNeverNegative(check);
        staysTillTheNext(check);
        shorterOneHidesTheLonger(check);
        check.finish();
    }

    private static void nothingAt(Check check, FragmentHouse house, int... places) {
        for (int place : places) {
            check.due("at(" + place + ")", house.at(place), -1);
        }
        for (int place : NEVER_THERE) {
            check.due("at(" + place + ")", house.at(place), -1);
        }
    }

    private static void noneSoFar(Check check) {
        FragmentHouse house = new FragmentHouse();
        check.due("length() of a new one", house.length(), -1);
        nothingAt(check, house, 0, 1);
        new Sender(house).middle(1, 0, 8, 1);
        check.due("length() with one in the making", house.length(), -1);
        nothingAt(check, house, 0, 7);
    }

    private static void emptyOne(Check check) {
        FragmentHouse house = new FragmentHouse();
        house.take(1, 1, 1, 0, true);
        check.due("length() of an empty one", house.length(), 0);
        nothingAt(check, house, 0, 1);
    }

    private static void edgesOfTheWhole(Check check) {
        FragmentHouse house = new FragmentHouse();
        house.feed(0x01020304, 0x05060708, 0x090a0b0c, 0, 0);
        house.end(11);
        house.take(1, 1, 1, 0, true);
        check.due("length()", house.length(), 11);
        for (int i = 0; i < 11; i++) {
            check.due("at(" + i + ")", house.at(i), i + 1);
        }
        nothingAt(check, house, 11, 12);
    }

    private static void bytesAreNeverNegative(Check check) {
        FragmentHouse house = new FragmentHouse();
        new Sender(house).last(1, 0, 2, 255);
        check.due("at(0)", house.at(0), 255);
        check.due("at(1)", house.at(1), 255);
    }

    private static void staysTillTheNext(Check check) {
        FragmentHouse house = new FragmentHouse();
        Sender sender = new Sender(house);
        sender.last(1, 0, 9, 1);
        for (int key = 1; key <= 4; key++) {
            sender.middle(key, 0, 16, 50 + key);
        }
        sender.last(2, 0, 1, 0);
        sender.middle(6, 0, 24, 60);
        house.pass(15000);
        check.due("length()", house.length(), 9);
        check.due("at(0)", house.at(0), 1);
        check.due("at(8)", house.at(8), 1);
        nothingAt(check, house, 9);
        sender.last(7, 0, 10, 2);
        check.due("length() of the next", house.length(), 10);
        check.due("at(0) of the next", house.at(0), 2);
        check.due("at(9) of the next", house.at(9), 2);
    }

    private static void shorterOneHidesTheLonger(Check check) {
        FragmentHouse house = new FragmentHouse();
        Sender sender = new Sender(house);
        sender.last(1, 0, 20, 1);
        sender.last(1, 0, 3, 2);
        check.due("length()", house.length(), 3);
        check.due("at(2)", house.at(2), 2);
        nothingAt(check, house, 3, 19);
        sender.last(1, 0, 0, 2);
        check.due("length() of an empty one", house.length(), 0);
        nothingAt(check, house, 0, 2);
    }
}
