/** Promise 4: take, with the terms of fragment, datagram in the making, end and whole. */
public final class TakeTest {
    public static void main(String[] args) {
        Check check = new Check();
        anyOrder(check);
        refusedOffsets(check);
        unsoundMiddles(check);
        reachOfTheRoom(check);
        unsoundLeavesTheDatagram(check);
        marksTellDatagramsApart(check);
        fifthIsDropped(check);
        anotherEnd(check);
        beyondTheKnownEnd(check);
        earlierBeyondTheToldEnd(check);
        droppedBeginsAnew(check);
        bytesStayAsTheyAre(check);
        doubledFragments(check);
        emptyLast(check);
        wholeBeginsAnew(check);
        largestDatagram(check);
        check.finish();
    }

    private static void anyOrder(Check check) {
        int[][] orders = {{0, 1, 2}, {0, 2, 1}, {1, 0, 2}, {1, 2, 0}, {2, 0, 1}, {2, 1, 0}};
        for (int[] order : orders) {
            FragmentHouse house = new FragmentHouse();
            Sender sender = new Sender(house);
            for (int k = 0; k < 3; k++) {
                int part = order[k];
                int got = part == 2 ? sender.last(1, 2, 3, 22) : sender.middle(1, part, 8, 20 + part);
                check.due("part " + part + " as number " + k, got, k == 2 ? 19 : -1);
            }
            check.due("at(0)", house.at(0), 20);
            check.due("at(7)", house.at(7), 20);
            check.due("at(8)", house.at(8), 21);
            check.due("at(16)", house.at(16), 22);
            check.due("at(18)", house.at(18), 22);
            check.due("at(19)", house.at(19), -1);
        }
    }

    private static void refusedOffsets(Check check) {
        FragmentHouse house = new FragmentHouse();
        new Sender(house).fillTray(8, 3);
        int[] refused = {-1, 8192, Integer.MIN_VALUE, Integer.MAX_VALUE, 536870912};
        for (int offset : refused) {
            check.due("take at " + offset, house.take(1, 1, 1, offset, false), -4);
            check.due("last take at " + offset, house.take(1, 1, 1, offset, true), -4);
        }
        check.due("nothing begun", house.making(), 0);
        check.due("the tray stayed", house.end(8), 8);
        check.due("take at 8191", house.take(1, 1, 1, 8191, false), -2);
        check.due("the tray is empty", house.end(1), -1);
        // A refused one comes before what would drop a datagram.
        Sender sender = new Sender(house);
        sender.last(2, 1, 8, 1);
        sender.fillTray(8, 1);
        check.due("take at 8192 beyond the end", house.take(2, 2, 2, 8192, false), -4);
        check.due("still in the making", house.making(), 1);
    }

    private static void unsoundMiddles(Check check) {
        FragmentHouse house = new FragmentHouse();
        Sender sender = new Sender(house);
        int[] unsound = {0, 1, 7, 9, 12, 15, 17, 1479};
        for (int count : unsound) {
            check.due("middle of " + count, sender.middle(1, 0, count, 1), -2);
            check.due("tray behind it", house.end(1), -1);
        }
        check.due("none of them began one", house.making(), 0);
        check.due("middle of 8", sender.middle(1, 0, 8, 1), -1);
        check.due("middle of 1480", sender.middle(2, 0, 1480, 1), -1);
        check.due("last of 7", sender.last(3, 0, 7, 1), 7);
    }

    private static void reachOfTheRoom(Check check) {
        FragmentHouse house = new FragmentHouse();
        Sender sender = new Sender(house);
        check.due("middle at 511 of 8", sender.middle(1, 511, 8, 1), -1);
        check.due("middle at 511 of 16", sender.middle(2, 511, 16, 1), -2);
        check.due("middle at 512 of 8", sender.middle(2, 512, 8, 1), -2);
        check.due("last at 511 of 9", sender.last(2, 511, 9, 1), -2);
        check.due("last at 512 of 1", sender.last(2, 512, 1, 1), -2);
        check.due("last at 513 of 0", sender.last(2, 513, 0, 1), -2);
        check.due("last at 8191 of 0", sender.last(2, 8191, 0, 1), -2);
        check.due("making so far", house.making(), 1);
        check.due("last at 512 of 0", sender.last(2, 512, 0, 1), -1);
        check.due("last at 511 of 8", sender.last(3, 511, 8, 1), -1);
        check.due("making then", house.making(), 3);
    }

    private static void unsoundLeavesTheDatagram(Check check) {
        FragmentHouse house = new FragmentHouse();
        Sender sender = new Sender(house);
        sender.last(1, 1, 8, 2);
        check.due("unsound and within the end", sender.middle(1, 0, 7, 1), -2);
        check.due("unsound and beyond the end", sender.middle(1, 1, 9, 1), -2);
        check.due("last beyond the room and the end", sender.last(1, 512, 1, 1), -2);
        check.due("still in the making", house.making(), 1);
        check.due("its missing part", sender.middle(1, 0, 8, 1), 16);
    }

    private static void marksTellDatagramsApart(Check check) {
        FragmentHouse house = new FragmentHouse();
        int low = Integer.MIN_VALUE;
        int high = Integer.MAX_VALUE;
        int[][] marks = {{low, high, -1}, {high, high, -1}, {low, low, -1}, {low, high, 0}};
        Sender sender = new Sender(house);
        for (int k = 0; k < 4; k++) {
            sender.fillTray(8, k);
            check.due("first of " + k, house.take(marks[k][0], marks[k][1], marks[k][2], 0, false), -1);
            check.due("making", house.making(), k + 1);
        }
        for (int k = 0; k < 4; k++) {
            sender.fillTray(1, 9);
            check.due("last of " + k, house.take(marks[k][0], marks[k][1], marks[k][2], 1, true), 9);
            check.due("its byte", house.at(0), k);
        }
    }

    private static void fifthIsDropped(Check check) {
        FragmentHouse house = new FragmentHouse();
        Sender sender = new Sender(house);
        for (int key = 1; key <= 4; key++) {
            check.due("first of " + key, sender.middle(key, 0, 8, key), -1);
        }
        check.due("first of a fifth", sender.middle(5, 0, 8, 5), -2);
        check.due("the tray is empty", house.end(1), -1);
        check.due("a fifth that would be whole at once", sender.last(5, 0, 8, 5), -2);
        check.due("an empty fifth", sender.last(5, 0, 0, 5), -2);
        check.due("making", house.making(), 4);
        check.due("made", house.made(), 0);
        check.due("more of the second", sender.middle(2, 1, 8, 2), -1);
        check.due("the second is whole", sender.last(2, 2, 1, 2), 17);
        check.due("now the fifth has room", sender.middle(5, 0, 8, 5), -1);
        check.due("and a sixth has none", sender.middle(6, 0, 8, 6), -2);
        check.due("a contradiction drops the third", dropByContradiction(sender, 3), -3);
        check.due("now the sixth has room", sender.middle(6, 0, 8, 6), -1);
    }

    private static int dropByContradiction(Sender sender, int key) {
        return sender.last(key, 0, 1, 0);
    }

    private static void anotherEnd(Check check) {
        FragmentHouse house = new FragmentHouse();
        Sender sender = new Sender(house);
        sender.last(1, 2, 5, 1);
        check.due("same end from elsewhere", sender.last(1, 1, 13, 1), -1);
        check.due("end one lower", sender.last(1, 2, 4, 1), -3);
        check.due("dropped", house.making(), 0);
        sender.last(1, 2, 5, 1);
        check.due("end one higher", sender.last(1, 2, 6, 1), -3);
        check.due("dropped", house.making(), 0);
        sender.last(1, 2, 0, 1);
        check.due("empty one tells another end", sender.last(1, 1, 0, 1), -3);
        check.due("the tray is empty", house.end(1), -1);
        check.due("none made", house.made(), 0);
    }

    private static void beyondTheKnownEnd(Check check) {
        FragmentHouse house = new FragmentHouse();
        Sender sender = new Sender(house);
        sender.last(1, 2, 8, 1);
        check.due("middle up to the end", sender.middle(1, 1, 16, 1), -1);
        check.due("middle beyond the end", sender.middle(1, 1, 24, 1), -3);
        check.due("dropped", house.making(), 0);
        sender.last(1, 2, 7, 1);
        check.due("middle one beyond the end", sender.middle(1, 2, 8, 1), -3);
        check.due("dropped", house.making(), 0);
        sender.last(1, 2, 0, 1);
        check.due("would be whole, but reaches beyond", sender.middle(1, 0, 24, 1), -3);
        check.due("none made", house.made(), 0);
    }

    private static void earlierBeyondTheToldEnd(Check check) {
        FragmentHouse house = new FragmentHouse();
        Sender sender = new Sender(house);
        sender.middle(1, 3, 8, 1);
        sender.middle(1, 0, 8, 1);
        check.due("end below an earlier reach", sender.last(1, 3, 7, 1), -3);
        check.due("dropped", house.making(), 0);
        sender.middle(1, 3, 8, 1);
        check.due("end at an earlier reach", sender.last(1, 4, 0, 1), -1);
        check.due("rest", sender.middle(1, 0, 24, 1), 32);
        sender.middle(1, 0, 16, 1);
        check.due("all before the end there, but one beyond", sender.last(1, 1, 0, 1), -3);
        check.due("making", house.making(), 0);
    }

    private static void droppedBeginsAnew(Check check) {
        FragmentHouse house = new FragmentHouse();
        Sender sender = new Sender(house);
        sender.middle(1, 0, 8, 1);
        sender.middle(1, 4, 8, 1);
        check.due("contradiction", sender.last(1, 1, 8, 1), -3);
        check.due("last part of a new one", sender.last(1, 1, 8, 2), -1);
        check.due("first part of the new one", sender.middle(1, 0, 8, 3), 16);
        check.due("at(0) is the new one's", house.at(0), 3);
        check.due("at(8) is the new one's", house.at(8), 2);
    }

    private static void bytesStayAsTheyAre(Check check) {
        FragmentHouse house = new FragmentHouse();
        Sender sender = new Sender(house);
        sender.middle(1, 1, 8, 0);
        sender.middle(1, 3, 8, 255);
        check.due("over both", sender.middle(1, 0, 40, 7), -1);
        check.due("last over the end of it", sender.last(1, 4, 11, 9), 43);
        int[] want = {7, 0, 7, 255, 7};
        for (int i = 0; i < 40; i++) {
            check.due("at(" + i + ")", house.at(i), want[i / 8]);
        }
        check.due("at(40)", house.at(40), 9);
        check.due("at(42)", house.at(42), 9);
    }

    private static void doubledFragments(Check check) {
        FragmentHouse house = new FragmentHouse();
        Sender sender = new Sender(house);
        check.due("middle", sender.middle(1, 1, 8, 1), -1);
        check.due("the same again", sender.middle(1, 1, 8, 1), -1);
        check.due("last", sender.last(1, 2, 8, 2), -1);
        check.due("the same again", sender.last(1, 2, 8, 3), -1);
        check.due("first", sender.middle(1, 0, 8, 4), 24);
        check.due("at(23)", house.at(23), 2);
    }

    private static void emptyLast(Check check) {
        FragmentHouse house = new FragmentHouse();
        Sender sender = new Sender(house);
        check.due("empty last at 0", sender.last(1, 0, 0, 0), 0);
        check.due("made", house.made(), 1);
        sender.middle(1, 0, 8, 1);
        check.due("empty last at the reach", sender.last(1, 1, 0, 0), 8);
        sender.middle(1, 0, 8, 1);
        check.due("empty last beyond the reach", sender.last(1, 2, 0, 0), -1);
        check.due("the gap is filled", sender.middle(1, 1, 8, 2), 16);
    }

    private static void wholeBeginsAnew(Check check) {
        FragmentHouse house = new FragmentHouse();
        Sender sender = new Sender(house);
        sender.middle(1, 0, 8, 1);
        check.due("whole", sender.last(1, 1, 8, 1), 16);
        check.due("a late double begins a new one", sender.last(1, 1, 8, 2), -1);
        check.due("making", house.making(), 1);
        check.due("another end contradicts the new one alone", sender.last(1, 1, 1, 2), -3);
        check.due("the whole one stays", house.length(), 16);
        check.due("and its bytes", house.at(15), 1);
    }

    private static void largestDatagram(Check check) {
        FragmentHouse house = new FragmentHouse();
        Sender sender = new Sender(house);
        check.due("bytes 2960 to 4095", sender.last(1, 370, 1136, 3), -1);
        check.due("bytes 0 to 1479", sender.middle(1, 0, 1480, 1), -1);
        check.due("bytes 1480 to 2959", sender.middle(1, 185, 1480, 2), 4096);
        check.due("at(1479)", house.at(1479), 1);
        check.due("at(1480)", house.at(1480), 2);
        check.due("at(2960)", house.at(2960), 3);
        check.due("at(4095)", house.at(4095), 3);
        check.due("at(4096)", house.at(4096), -1);
    }
}
