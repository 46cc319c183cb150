/** A house that counts its calls: an object is used for at most 512 of them. */
final class CountedHouse {
    static final int MOST = 512;

    private final FragmentHouse house = new FragmentHouse();
    private int calls = 0;

    private FragmentHouse counted() {
        calls++;
        return house;
    }

    int calls() {
        return calls;
    }

    int left() {
        return MOST - calls;
    }

    /** The same word five times. */
    int feed(int word) {
        return counted().feed(word, word, word, word, word);
    }

    int end(int n) {
        return counted().end(n);
    }

    /** The three marks are all key. */
    int take(int key, int offset, boolean last) {
        return counted().take(key, key, key, offset, last);
    }

    int pass(int t) {
        return counted().pass(t);
    }

    int making() {
        return counted().making();
    }

    int made() {
        return counted().made();
    }

    int length() {
        return counted().length();
    }

    int at(int i) {
        return counted().at(i);
    }
}
