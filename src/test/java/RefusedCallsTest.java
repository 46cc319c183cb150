import java.util.Random;

/**
 * Terms: "A call that is refused changes nothing." Here of all methods together; each one's own
 * boundary test shows it of that one.
 */
public final class RefusedCallsTest {
    private static final int LATEST = 2000000000;
    private static final int RUNS = 400;
    /** Each is seven calls at most, and an object is good for 512. */
    private static final int STEPS = 70;

    public static void main(String[] args) {
        Check check = new Check();
        onANewOne(check);
        KnownState.refuses(check, "all refused calls", 1480, -1, RefusedCallsTest::refusedWhenFull);
        KnownState.refuses(check, "looking at all", 13, 11, RefusedCallsTest::look);
        for (int run = 0; run < RUNS; run++) {
            aTwinWithoutThem(check, new Random(run));
        }
        check.finish();
    }

    private static int refusedWhenFull(FragmentHouse house) {
        int answers = house.feed(-1, -1, -1, -1, -1);
        answers &= house.end(-1) & house.end(1481);
        answers &= house.pass(-1) & house.pass(KnownState.TIME - 1) & house.pass(LATEST + 1);
        for (int key = 0; key <= 9; key++) {
            boolean refused = house.take(key, key, key, -1, key % 2 == 0) == -4
                && house.take(key, key, key, 8192, key % 2 == 1) == -4;
            answers = refused ? answers : 0;
        }
        return answers;
    }

    private static int look(FragmentHouse house) {
        house.making();
        house.made();
        house.at(0);
        house.at(-1);
        house.at(11);
        return house.length();
    }

    private static void onANewOne(Check check) {
        FragmentHouse house = new FragmentHouse();
        check.due("end(1)", house.end(1), -1);
        check.due("end(-1)", house.end(-1), -1);
        check.due("take at -1", house.take(1, 1, 1, -1, true), -4);
        check.due("take at 8192", house.take(1, 1, 1, 8192, true), -4);
        check.due("pass(-1)", house.pass(-1), -1);
        check.due("pass(2000000001)", house.pass(LATEST + 1), -1);
        check.counts("new", house, 0, 0);
        check.due("length()", house.length(), -1);
        check.due("at(0)", house.at(0), -1);
        check.tray("new", house, 0);
        check.time("new", house, 0);
    }

    /** Two get the same calls, one of them refused ones in between: they answer the same. */
    private static void aTwinWithoutThem(Check check, Random random) {
        FragmentHouse one = new FragmentHouse();
        FragmentHouse twin = new FragmentHouse();
        int time = 0;
        int tray = 0;
        for (int k = 0; k < STEPS; k++) {
            refusedCall(check, one, random, time, tray);
            if (random.nextInt(9) == 0) {
                time += random.nextInt(6000);
                check.due("pass(" + time + ")", one.pass(time), twin.pass(time));
            } else if (tray == 0) {
                tray = 8 * (1 + random.nextInt(2));
                fillBoth(check, one, twin, random.nextInt(), tray);
            } else {
                tray = 0;
                takeFromBoth(check, one, twin, random);
            }
            look(check, one, twin, random.nextInt(33) - 1);
        }
    }

    private static void fillBoth(Check check, FragmentHouse one, FragmentHouse twin, int word, int count) {
        check.due("feed", one.feed(word, ~word, -word, word, 1), twin.feed(word, ~word, -word, word, 1));
        check.due("end(" + count + ")", one.end(count), twin.end(count));
    }

    private static void takeFromBoth(Check check, FragmentHouse one, FragmentHouse twin, Random random) {
        int key = random.nextInt(6);
        int offset = random.nextInt(4);
        boolean last = random.nextInt(4) == 0;
        check.due("take", one.take(key, 0, 0, offset, last), twin.take(key, 0, 0, offset, last));
    }

    private static void refusedCall(Check check, FragmentHouse one, Random random, int time, int tray) {
        int more = 1 + random.nextInt(100);
        int key = random.nextInt(6);
        boolean last = random.nextBoolean();
        switch (random.nextInt(6)) {
            case 0 -> check.due("end above", one.end(tray + more), -1);
            case 1 -> check.due("end below 0", one.end(-more), -1);
            case 2 -> check.due("take below 0", one.take(key, 0, 0, -more, last), -4);
            case 3 -> check.due("take above", one.take(key, 0, 0, 8191 + more, last), -4);
            case 4 -> check.due("pass back", one.pass(time - more), -1);
            default -> check.due("pass above", one.pass(LATEST + more), -1);
        }
    }

    private static void look(Check check, FragmentHouse one, FragmentHouse twin, int i) {
        check.due("making()", one.making(), twin.making());
        check.due("made()", one.made(), twin.made());
        check.due("length()", one.length(), twin.length());
        check.due("at(" + i + ")", one.at(i), twin.at(i));
    }
}
