/**
 * Promise 4: take. "The tray's bytes come as a fragment, with an offset in units of 8, and the tray
 * is empty"; the boundaries that the Terms name have tests of their own.
 */
public final class TakeTest {
    private static final int[] OFFSETS = {
        1, 2, 3, 7, 8, 9, 31, 32, 127, 128, 184, 185, 186, 255, 256, 369, 370, 371, 510, 511};

    public static void main(String[] args) {
        Check check = new Check();
        for (int offset : OFFSETS) {
            unitsOfEight(check, offset);
        }
        everyByteOfAFullTray(check);
        theTrayIsEmpty(check);
        droppedBeginsAnew(check);
        manyUseTheSameRoom(check);
        check.finish();
    }

    /** One byte comes at the offset: just offset times 8 bytes have room before it. */
    private static void unitsOfEight(Check check, int offset) {
        Sender sender = new Sender();
        String name = "offset " + offset;
        check.due(name, sender.last(1, offset, 1, 200), -1);
        int full = 1480 / 8;
        int unit = 0;
        for (; unit + full < offset; unit += full) {
            check.due(name + ": before it, from " + unit, sender.middle(1, unit, full * 8, 100), -1);
        }
        int rest = (offset - unit) * 8;
        check.due(name + ": the rest", sender.middle(1, unit, rest, 101), offset * 8 + 1);
        check.due(name + ": byte before it", sender.house.at(offset * 8 - 1), 101);
        check.due(name + ": its byte", sender.house.at(offset * 8), 200);
        check.due(name + ": byte behind it", sender.house.at(offset * 8 + 1), -1);
    }

    /** An object has not calls enough to look at all 1480 bytes, so that more than one must do. */
    private static void everyByteOfAFullTray(Check check) {
        for (int from = 0; from < 1480; from += 370) {
            FragmentHouse house = new FragmentHouse();
            Message message = new Message(1, 1483);
            check.due("full tray", message.bring(house, 0, 1480), -1);
            check.due("three more", message.bring(house, 1480, 1483), 1483);
            for (int i = from; i < from + 370; i++) {
                check.due("full tray: at(" + i + ")", house.at(i), message.byteAt(i));
            }
        }
    }

    private static void theTrayIsEmpty(Check check) {
        int[] counts = {8, 16, 1480};
        for (int count : counts) {
            Sender sender = new Sender();
            check.due("not whole", sender.last(1, 1, count, 1), -1);
            check.tray("not whole, of " + count, sender.house, 0);
            check.due("dropped", sender.middle(1, 512, count, 1), -2);
            check.tray("dropped, of " + count, sender.house, 0);
            check.due("dropped with its datagram", sender.middle(1, 2, count, 1), -3);
            check.tray("dropped with its datagram, of " + count, sender.house, 0);
            check.due("whole", sender.last(1, 0, count, 1), count);
            check.tray("whole, of " + count, sender.house, 0);
            check.due("an empty one then", sender.house.take(1, 1, 1, 0, true), 0);
        }
    }

    private static void droppedBeginsAnew(Check check) {
        Sender sender = new Sender();
        sender.middle(1, 0, 8, 1);
        sender.middle(1, 4, 8, 1);
        check.due("contradiction", sender.last(1, 1, 8, 1), -3);
        check.due("last part of a new one", sender.last(1, 1, 8, 2), -1);
        check.due("first part of the new one", sender.middle(1, 0, 8, 3), 16);
        check.units("the new one", sender.house, 3, 2);
    }

    /** One behind the other, each with other bytes: nothing of an earlier one shows through. */
    private static void manyUseTheSameRoom(Check check) {
        Sender sender = new Sender();
        for (int k = 0; k < 20; k++) {
            int length = 16 + (20 - k) % 3;
            check.due("last of " + k, sender.last(k, 1, length - 8, 100 + k), -1);
            check.due("first of " + k, sender.middle(k, 0, 8, 200 + k), length);
            check.due("at(7) of " + k, sender.house.at(7), 200 + k);
            check.due("at(8) of " + k, sender.house.at(8), 100 + k);
            check.due("at its end of " + k, sender.house.at(length), -1);
        }
        check.counts("behind them all", sender.house, 0, 20);
    }
}
