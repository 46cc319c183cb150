/**
 * Promise 4, Terms: "One that is not the last must have a multiple of 8 bytes, at least 8 [..]:
 * else it is dropped."
 */
public final class FragmentSizeBoundaryTest {
    private static final int HIGHEST = 1480;

    public static void main(String[] args) {
        Check check = new Check();
        for (int count = 0; count <= 33; count++) {
            ofThatSize(check, count);
        }
        for (int count = HIGHEST - 17; count <= HIGHEST; count++) {
            ofThatSize(check, count);
        }
        droppedOnesLeaveTheRest(check);
        droppedOnesAreNoFirst(check);
        check.finish();
    }

    private static void ofThatSize(Check check, int count) {
        boolean sound = count >= 8 && count % 8 == 0;
        Sender middle = new Sender();
        String name = "of " + count + " bytes";
        check.due("middle " + name, middle.middle(1, 0, count, 1), sound ? -1 : -2);
        check.due("middle " + name + ": making", middle.house.making(), sound ? 1 : 0);
        check.tray("middle " + name, middle.house, 0);
        Sender last = new Sender();
        check.due("last " + name, last.last(1, 0, count, 1), count);
        check.counts("last " + name, last.house, 0, 1);
        check.tray("last " + name, last.house, 0);
    }

    private static void droppedOnesLeaveTheRest(Check check) {
        int[] unsound = {0, 1, 7, 9, 15, 17, 1479};
        for (int count : unsound) {
            dropped(check, 1, 1, count);
            dropped(check, 2, 0, count);
            dropped(check, 2, 1, count);
            dropped(check, 3, 0, count);
            dropped(check, KnownState.NO_SUCH_KEY, 0, count);
        }
    }

    private static void dropped(Check check, int key, int offset, int count) {
        String name = "middle of " + count + " bytes for " + key + " at " + offset;
        KnownState.stays(check, name, count, 0, -2, house -> house.take(key, key, key, offset, false));
    }

    /** Neither the bytes nor the reach of a dropped one count for its datagram. */
    private static void droppedOnesAreNoFirst(Check check) {
        Sender sender = new Sender();
        check.due("middle of 31 bytes", sender.middle(1, 0, 31, 1), -2);
        check.due("last that it reaches beyond", sender.last(1, 1, 8, 2), -1);
        check.due("first", sender.middle(1, 0, 8, 3), 16);
        check.units("the dropped one's bytes are gone", sender.house, 3, 2);
    }
}
