/**
 * What it is: "An object is used for at most 512 calls after it has been made". Each run here uses
 * all of them, and the 512th still answers what is due.
 */
public final class AllCallsUsedTest {
    private static final int MOST = CountedHouse.MOST;

    public static void main(String[] args) {
        Check check = new Check();
        feeds(check);
        ends(check);
        takesThatAreWhole(check);
        takesThatAreDropped(check);
        takesThatAreRefused(check);
        oneByteDatagrams(check);
        unitsFromTheLastToTheFirst(check);
        passes(check);
        looks(check);
        twoOfTheLargest(check);
        fourAllTheTime(check);
        check.finish();
    }

    private static void allUsed(Check check, String name, CountedHouse house) {
        check.due(name + ": calls", house.calls(), MOST);
    }

    private static void feeds(Check check) {
        CountedHouse house = new CountedHouse();
        for (int k = 1; k <= MOST; k++) {
            check.due("feed number " + k, house.feed(k), k <= 74 ? 20 * k : -1);
        }
        allUsed(check, "feeds", house);
    }

    private static void ends(Check check) {
        CountedHouse house = new CountedHouse();
        for (int k = 1; k <= 74; k++) {
            house.feed(k);
        }
        int n = 1480;
        while (house.left() >= 2) {
            check.due("end(" + n + ")", house.end(n), n);
            check.due("end(" + (n + 1) + ") then", house.end(n + 1), -1);
            n -= 5;
        }
        allUsed(check, "ends", house);
    }

    private static void takesThatAreWhole(Check check) {
        CountedHouse house = new CountedHouse();
        for (int k = 1; k < MOST; k++) {
            check.due("empty one number " + k, house.take(k, 0, true), 0);
        }
        check.due("made()", house.made(), MOST - 1);
        allUsed(check, "takes that are whole", house);
    }

    private static void takesThatAreDropped(Check check) {
        CountedHouse house = new CountedHouse();
        for (int k = 1; k < MOST; k++) {
            check.due("empty middle number " + k, house.take(k, 0, false), -2);
        }
        check.due("making()", house.making(), 0);
        allUsed(check, "takes that are dropped", house);
    }

    private static void takesThatAreRefused(Check check) {
        CountedHouse house = new CountedHouse();
        house.feed(0x07070707);
        while (house.left() > 2) {
            check.due("take at 8192", house.take(1, 8192, true), -4);
        }
        check.due("take at 0", house.take(1, 0, true), 20);
        check.due("at(19)", house.at(19), 7);
        allUsed(check, "takes that are refused", house);
    }

    private static void oneByteDatagrams(Check check) {
        CountedHouse house = new CountedHouse();
        for (int k = 1; k <= 102; k++) {
            check.due("feed for " + k, house.feed(k << 24), 20);
            check.due("end for " + k, house.end(1), 1);
            check.due("take of " + k, house.take(1, 0, true), 1);
            check.due("made behind " + k, house.made(), k);
            check.due("byte of " + k, house.at(0), k);
        }
        check.due("making()", house.making(), 0);
        check.due("length()", house.length(), 1);
        allUsed(check, "datagrams of one byte", house);
    }

    /** One datagram of as many fragments as the calls allow. */
    private static void unitsFromTheLastToTheFirst(Check check) {
        CountedHouse house = new CountedHouse();
        int units = 168;
        check.due("the end", house.take(1, units, true), -1);
        for (int unit = units - 1; unit >= 0; unit--) {
            check.due("feed for " + unit, house.feed(unit * 0x01010101), 20);
            check.due("end for " + unit, house.end(8), 8);
            check.due("unit " + unit, house.take(1, unit, false), unit == 0 ? units * 8 : -1);
        }
        for (int unit = 0; house.left() > 0; unit += 25) {
            check.due("byte of " + unit, house.at(unit * 8 + 7), unit);
        }
        allUsed(check, "units from the last to the first", house);
    }

    /** The 500th of them is at 15000. */
    private static void passes(Check check) {
        CountedHouse house = new CountedHouse();
        house.feed(1);
        house.end(8);
        check.due("first fragment", house.take(1, 0, false), -1);
        for (int k = 1; house.left() > 0; k++) {
            check.due("pass number " + k, house.pass(30 * k), k == 500 ? 1 : 0);
        }
        allUsed(check, "passes", house);
    }

    private static void looks(Check check) {
        CountedHouse house = new CountedHouse();
        house.feed(0x09090909);
        check.due("whole", house.take(1, 0, true), 20);
        check.due("one in the making", house.take(2, 3, true), -1);
        while (house.left() >= 5) {
            check.due("making()", house.making(), 1);
            check.due("made()", house.made(), 1);
            check.due("length()", house.length(), 20);
            check.due("at(19)", house.at(19), 9);
            check.due("at(20)", house.at(20), -1);
        }
        while (house.left() > 0) {
            check.due("pass(0)", house.pass(0), 0);
        }
        allUsed(check, "looks", house);
    }

    private static void twoOfTheLargest(Check check) {
        CountedHouse house = new CountedHouse();
        largest(check, house, 1);
        largest(check, house, 4);
        check.due("made()", house.made(), 2);
        for (int i = 4095; house.left() > 0; i -= 44) {
            check.due("at(" + i + ")", house.at(i), 4 + i / 1480);
        }
        allUsed(check, "two of the largest", house);
    }

    /** Its three fragments have bytes of the worth first, and of the two behind it. */
    private static void largest(Check check, CountedHouse house, int first) {
        int[] due = {-1, -1, 4096};
        for (int part = 0; part < 3; part++) {
            int count = part == 2 ? 1136 : 1480;
            for (int fed = 0; fed < count; fed += 20) {
                house.feed((first + part) * 0x01010101);
            }
            check.due("end(" + count + ")", house.end(count), count);
            check.due("part " + part, house.take(first, part * 185, part == 2), due[part]);
        }
    }

    /** Four are in the making all the time: each that is whole or dropped makes room for the next. */
    private static void fourAllTheTime(Check check) {
        CountedHouse house = new CountedHouse();
        for (int key = 0; key < 4; key++) {
            check.due("end of " + key, house.take(key, 1, true), -1);
        }
        int made = 0;
        for (int key = 4; house.left() >= 7; key++) {
            int oldest = key - 4;
            boolean whole = oldest % 3 != 2;
            made += whole ? 1 : 0;
            check.due("no room for " + key, house.take(key, 1, true), -2);
            house.feed(oldest * 0x01010101);
            house.end(8);
            check.due("rest of " + oldest, house.take(oldest, whole ? 0 : 1, false), whole ? 8 : -3);
            check.due("byte of the latest", house.at(7), whole ? oldest : oldest - 1);
            check.due("room for " + key, house.take(key, 1, true), -1);
            check.due("making()", house.making(), 4);
        }
        while (house.left() > 0) {
            check.due("made()", house.made(), made);
        }
        allUsed(check, "four all the time", house);
    }
}
