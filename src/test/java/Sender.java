/** Brings fragments to a house: fills its tray, then takes. The tray must be empty before. */
final class Sender {
    final FragmentHouse house;

    Sender() {
        this(new FragmentHouse());
    }

    Sender(FragmentHouse house) {
        this.house = house;
    }

    /** Puts count bytes into the empty tray, all of them worth fill. */
    void fillTray(int count, int fill) {
        int word = (fill & 0xff) * 0x01010101;
        for (int fed = 0; fed < count; fed += 20) {
            house.feed(word, word, word, word, word);
        }
        house.end(count);
    }

    /** A fragment of the datagram whose three marks are all key. */
    int bring(int key, int offset, int count, int fill, boolean last) {
        fillTray(count, fill);
        return house.take(key, key, key, offset, last);
    }

    int middle(int key, int offset, int count, int fill) {
        return bring(key, offset, count, fill, false);
    }

    int last(int key, int offset, int count, int fill) {
        return bring(key, offset, count, fill, true);
    }
}
