/** A datagram as it is sent: bytes of its own, and a note of which of them have come. */
final class Message {
    final int key;
    final int length;
    private final boolean[] come;
    private boolean endIsTold = false;

    Message(int key, int length) {
        this.key = key;
        this.length = length;
        come = new boolean[length];
    }

    int byteAt(int i) {
        return (i * 37 + i / 256 * 5 + key * 11 + 1) & 0xff;
    }

    private int wordAt(int i) {
        return byteAt(i) << 24 | byteAt(i + 1) << 16 | byteAt(i + 2) << 8 | byteAt(i + 3);
    }

    /** The bytes from start to reach go into the empty tray. */
    void fillTray(FragmentHouse house, int start, int reach) {
        for (int i = start; i < reach; i += 20) {
            house.feed(wordAt(i), wordAt(i + 4), wordAt(i + 8), wordAt(i + 12), wordAt(i + 16));
        }
        house.end(reach - start);
    }

    /** The bytes from start to reach come, as the last ones if they reach to the end. */
    int bring(FragmentHouse house, int start, int reach) {
        fillTray(house, start, reach);
        for (int i = start; i < reach; i++) {
            come[i] = true;
        }
        endIsTold |= reach == length;
        return house.take(key, key + 1, key + 2, start / 8, reach == length);
    }

    boolean isWhole() {
        for (boolean one : come) {
            if (!one) {
                return false;
            }
        }
        return endIsTold;
    }

    /** What the take that brought its latest fragment must answer. */
    int due() {
        return isWhole() ? length : -1;
    }

    void isShown(Check check, String when, FragmentHouse house) {
        check.due(when + ": length()", house.length(), length);
        for (int i = 0; i < length; i++) {
            check.due(when + ": at(" + i + ")", house.at(i), byteAt(i));
        }
        check.due(when + ": at(" + length + ")", house.at(length), -1);
    }
}
