import java.util.ArrayList;
import java.util.LinkedHashMap;
import java.util.List;
import java.util.Map;

/**
 * The document told again in another way: every datagram in the making keeps its fragments, and
 * what it is worth is reckoned anew from all of them each time.
 */
final class PlainModel {
    private record Fragment(int start, List<Integer> bytes, boolean last, int time) {
        int reach() {
            return start + bytes.size();
        }
    }

    private final Map<List<Integer>, List<Fragment>> inTheMaking = new LinkedHashMap<>();
    private List<Integer> tray = new ArrayList<>();
    private List<Integer> whole = null;
    private int wholeSoFar = 0;
    private int time = 0;

    int feed(int... words) {
        if (tray.size() + 20 > 1480) {
            return -1;
        }
        for (int word : words) {
            tray.add(word >> 24 & 255);
            tray.add(word >> 16 & 255);
            tray.add(word >> 8 & 255);
            tray.add(word & 255);
        }
        return tray.size();
    }

    int end(int n) {
        if (n < 0 || n > tray.size()) {
            return -1;
        }
        tray = new ArrayList<>(tray.subList(0, n));
        return n;
    }

    int take(int sender, int identification, int protocol, int offset, boolean last) {
        if (offset < 0 || offset > 8191) {
            return -4;
        }
        Fragment fragment = new Fragment(offset * 8, tray, last, time);
        tray = new ArrayList<>();
        boolean sizeIsSound = last || (fragment.bytes.size() >= 8 && fragment.bytes.size() % 8 == 0);
        List<Integer> marks = List.of(sender, identification, protocol);
        boolean isFifth = !inTheMaking.containsKey(marks) && inTheMaking.size() == 4;
        if (!sizeIsSound || fragment.reach() > 4096 || isFifth) {
            return -2;
        }
        List<Fragment> all = inTheMaking.computeIfAbsent(marks, m -> new ArrayList<>());
        all.add(fragment);
        if (isContradictory(all)) {
            inTheMaking.remove(marks);
            return -3;
        }
        List<Integer> bytes = wholeOf(all);
        if (bytes == null) {
            return -1;
        }
        inTheMaking.remove(marks);
        whole = bytes;
        wholeSoFar++;
        return bytes.size();
    }

    private static boolean isContradictory(List<Fragment> all) {
        for (Fragment telling : all) {
            for (Fragment other : all) {
                boolean beyond = other.reach() > telling.reach();
                boolean elsewhere = other.last && other.reach() != telling.reach();
                if (telling.last && (beyond || elsewhere)) {
                    return true;
                }
            }
        }
        return false;
    }

    private static List<Integer> wholeOf(List<Fragment> all) {
        int end = -1;
        for (Fragment fragment : all) {
            end = fragment.last ? fragment.reach() : end;
        }
        if (end < 0) {
            return null;
        }
        List<Integer> bytes = new ArrayList<>();
        for (int place = 0; place < end; place++) {
            Integer first = firstByteAt(all, place);
            if (first == null) {
                return null;
            }
            bytes.add(first);
        }
        return bytes;
    }

    private static Integer firstByteAt(List<Fragment> all, int place) {
        for (Fragment fragment : all) {
            if (place >= fragment.start && place < fragment.reach()) {
                return fragment.bytes.get(place - fragment.start);
            }
        }
        return null;
    }

    int pass(int t) {
        if (t < time || t > 2000000000) {
            return -1;
        }
        time = t;
        int before = inTheMaking.size();
        inTheMaking.values().removeIf(all -> (long) all.get(0).time + 15000 <= t);
        return before - inTheMaking.size();
    }

    int making() {
        return inTheMaking.size();
    }

    int made() {
        return wholeSoFar;
    }

    int length() {
        return whole == null ? -1 : whole.size();
    }

    int at(int i) {
        return whole == null || i < 0 || i >= whole.size() ? -1 : whole.get(i);
    }

    int timeNow() {
        return time;
    }
}
