import java.util.Arrays;

/**
 * Puts datagrams together from fragments that come in any order, doubled, overlapping or
 * contradicting one another, up to four at a time, and gives up those that take too long.
 */
public final class FragmentHouse {
    private static final int TRAY_ROOM = 1480;
    private static final int FED_BYTES = 20;
    private static final int DATAGRAM_ROOM = 4096;
    private static final int MAKING_ROOM = 4;
    private static final int UNIT = 8;
    private static final int HIGHEST_OFFSET = 8191;
    private static final int LIFETIME = 15000;
    private static final int LATEST_TIME = 2000000000;

    /** No slot, no known end, no byte, no datagram, or a refused call of any method but take. */
    private static final int NONE = -1;

    private static final int NOT_WHOLE_YET = -1;
    private static final int FRAGMENT_DROPPED = -2;
    private static final int DATAGRAM_DROPPED = -3;
    private static final int TAKE_REFUSED = -4;

    private final int[] tray;
    private final Datagram[] slots;
    private Datagram latestWhole;
    private int trayCount;
    private int wholeCount;
    private int now;

    public FragmentHouse() {
        tray = new int[TRAY_ROOM];
        slots = new Datagram[MAKING_ROOM];
        for (int i = 0; i < MAKING_ROOM; i++) {
            slots[i] = new Datagram();
        }
        latestWhole = new Datagram();
        trayCount = 0;
        wholeCount = 0;
        now = 0;
    }

    public int feed(int a, int b, int c, int d, int e) {
        if (trayCount > TRAY_ROOM - FED_BYTES) {
            return NONE;
        }
        putWord(a, trayCount);
        putWord(b, trayCount + 4);
        putWord(c, trayCount + 8);
        putWord(d, trayCount + 12);
        putWord(e, trayCount + 16);
        trayCount += FED_BYTES;
        return trayCount;
    }

    public int end(int n) {
        if (n < 0 || n > trayCount) {
            return NONE;
        }
        trayCount = n;
        return n;
    }

    public int take(int sender, int identification, int protocol, int offset, boolean last) {
        if (offset < 0 || offset > HIGHEST_OFFSET) {
            return TAKE_REFUSED;
        }
        int count = trayCount;
        trayCount = 0;
        int start = offset * UNIT;
        if (!isSound(start, count, last)) {
            return FRAGMENT_DROPPED;
        }
        int slot = slotFor(sender, identification, protocol);
        if (slot == NONE) {
            return FRAGMENT_DROPPED;
        }
        return join(slot, start, count, last);
    }

    public int pass(int t) {
        if (t < now || t > LATEST_TIME) {
            return NONE;
        }
        now = t;
        int dropped = 0;
        for (int i = 0; i < MAKING_ROOM; i++) {
            // The sum can't wrap around: a first fragment's time is LATEST_TIME at most.
            if (slots[i].inMaking && slots[i].firstTime + LIFETIME <= now) {
                slots[i].inMaking = false;
                dropped++;
            }
        }
        return dropped;
    }

    public int making() {
        int count = 0;
        for (int i = 0; i < MAKING_ROOM; i++) {
            if (slots[i].inMaking) {
                count++;
            }
        }
        return count;
    }

    public int made() {
        return wholeCount;
    }

    public int length() {
        return latestWhole.knownEnd;
    }

    public int at(int i) {
        // Before the first whole one the known end is NONE, so that no i is below it.
        if (i < 0 || i >= latestWhole.knownEnd) {
            return NONE;
        }
        return latestWhole.cells[i];
    }

    private void putWord(int word, int place) {
        for (int k = 0; k < 4; k++) {
            tray[place + k] = (word >>> (24 - 8 * k)) & 0xff;
        }
    }

    private static boolean isSound(int start, int count, boolean last) {
        if (start + count > DATAGRAM_ROOM) {
            return false;
        }
        return last || (count > 0 && count % UNIT == 0);
    }

    /** The slot of the datagram that the fragment belongs to, begun here if it is its first. */
    private int slotFor(int sender, int identification, int protocol) {
        int free = NONE;
        for (int i = 0; i < MAKING_ROOM; i++) {
            if (!slots[i].inMaking) {
                free = i;
            } else if (slots[i].isOf(sender, identification, protocol)) {
                return i;
            }
        }
        if (free != NONE) {
            slots[free].begin(sender, identification, protocol, now);
        }
        return free;
    }

    private int join(int slot, int start, int count, boolean last) {
        Datagram datagram = slots[slot];
        int reach = start + count;
        if (datagram.isContradictedBy(reach, last)) {
            datagram.inMaking = false;
            return DATAGRAM_DROPPED;
        }
        datagram.noteReach(reach, last);
        datagram.putIn(tray, count, start);
        if (!datagram.isWhole()) {
            return NOT_WHOLE_YET;
        }
        showWhole(slot);
        return latestWhole.knownEnd;
    }

    /** The two change places, so that the row of the one shown till now is used again. */
    private void showWhole(int slot) {
        Datagram whole = slots[slot];
        whole.inMaking = false;
        slots[slot] = latestWhole;
        latestWhole = whole;
        wholeCount++;
    }

    private static final class Datagram {
        final int[] cells;
        boolean inMaking;
        int sender;
        int identification;
        int protocol;
        int firstTime;
        int knownEnd;
        int farthestReach;
        int presentCount;

        Datagram() {
            cells = new int[DATAGRAM_ROOM];
            inMaking = false;
            knownEnd = NONE;
        }

        void begin(int itsSender, int itsIdentification, int itsProtocol, int time) {
            Arrays.fill(cells, NONE);
            inMaking = true;
            sender = itsSender;
            identification = itsIdentification;
            protocol = itsProtocol;
            firstTime = time;
            knownEnd = NONE;
            farthestReach = 0;
            presentCount = 0;
        }

        boolean isOf(int aSender, int anIdentification, int aProtocol) {
            return sender == aSender && identification == anIdentification && protocol == aProtocol;
        }

        boolean isContradictedBy(int reach, boolean last) {
            if (knownEnd != NONE && (reach > knownEnd || (last && reach != knownEnd))) {
                return true;
            }
            return last && farthestReach > reach;
        }

        void noteReach(int reach, boolean last) {
            farthestReach = Math.max(farthestReach, reach);
            if (last) {
                knownEnd = reach;
            }
        }

        /** Needs start + count to be within the row, and count within the source. */
        void putIn(int[] source, int count, int start) {
            for (int i = 0; i < count; i++) {
                if (cells[start + i] == NONE) {
                    cells[start + i] = source[i];
                    presentCount++;
                }
            }
        }

        /** No byte is ever beyond a known end, so that counting them is enough. */
        boolean isWhole() {
            return knownEnd != NONE && presentCount == knownEnd;
        }
    }
}
