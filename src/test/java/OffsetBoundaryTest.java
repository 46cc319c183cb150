/** Promise 4: take is "Refused with -4 if offset is not 0 .. 8191." */
public final class OffsetBoundaryTest {
    /** The greatest of these come round to small ones when they are taken times 8. */
    private static final int[] REFUSED = {
        Integer.MIN_VALUE, Integer.MIN_VALUE + 1, -536870912, -8192, -2, -1,
        8192, 8193, 65536, 268435456, 536870912, 536870913, Integer.MAX_VALUE - 1, Integer.MAX_VALUE};
    private static final int[] TRAYS = {0, 7, 8, 20, 1480};

    public static void main(String[] args) {
        Check check = new Check();
        for (int offset : REFUSED) {
            for (int tray : TRAYS) {
                changesNothing(check, offset, tray);
            }
            comesBeforeAllElse(check, offset);
        }
        lowestOnes(check);
        highestOnes(check);
        check.finish();
    }

    private static void changesNothing(Check check, int offset, int tray) {
        int[] keys = {1, 2, 3, KnownState.NO_SUCH_KEY};
        for (int key : keys) {
            String name = "take of " + key + " at " + offset;
            KnownState.refuses(check, name, tray, -4, house -> house.take(key, key, key, offset, false));
            KnownState.refuses(check, "last " + name, tray, -4,
                house -> house.take(key, key, key, offset, true));
        }
    }

    private static void comesBeforeAllElse(Check check, int offset) {
        Sender sender = new Sender();
        for (int key = 1; key <= 4; key++) {
            sender.last(key, 1, 8, key);
        }
        String at = " at " + offset;
        FragmentHouse house = sender.house;
        sender.fillTray(8, 1);
        check.due("a fifth" + at, house.take(5, 5, 5, offset, false), -4);
        check.due("another end" + at, house.take(1, 1, 1, offset, true), -4);
        house.end(7);
        check.due("an unsound one" + at, house.take(2, 2, 2, offset, false), -4);
        check.due("making" + at, house.making(), 4);
    }

    private static void lowestOnes(Check check) {
        takes(check, 0, false, -1, 1);
        takes(check, 0, true, 8, 0);
        takes(check, 1, false, -1, 1);
        takes(check, 1, true, -1, 1);
    }

    /** They are not refused, but reach beyond 4096 bytes: the tray is empty behind them. */
    private static void highestOnes(Check check) {
        takes(check, 8190, false, -2, 0);
        takes(check, 8190, true, -2, 0);
        takes(check, 8191, false, -2, 0);
        takes(check, 8191, true, -2, 0);
    }

    private static void takes(Check check, int offset, boolean last, int due, int making) {
        Sender sender = new Sender();
        String name = (last ? "last" : "middle") + " at " + offset;
        check.due(name, sender.bring(1, offset, 8, 1, last), due);
        check.tray(name, sender.house, 0);
        check.due(name + ": making", sender.house.making(), making);
    }
}
