/**
 * Promise 5, Terms: "15000 behind the time of its first fragment a datagram in the making is
 * dropped: as time goes on to t, all those for which that is at t or before."
 */
public final class LifetimeBoundaryTest {
    private static final int LATEST = 2000000000;
    private static final int[] BEGINNINGS = {
        0, 1, 10, 15000, 65535, 1000000000, LATEST - 15001, LATEST - 15000, LATEST - 14999, LATEST - 1,
        LATEST};

    public static void main(String[] args) {
        Check check = new Check();
        for (int begun : BEGINNINGS) {
            after(check, begun, 14999, 0);
            after(check, begun, 15000, 1);
            after(check, begun, 15001, 1);
        }
        latestTime(check);
        manySmallSteps(check);
        allAtOnce(check);
        oneBehindTheOther(check);
        everyNumberThatIsDue(check);
        firstFragmentCounts(check);
        droppedFragmentsAreNoFirst(check);
        beginsAnewBehindTime(check);
        beginsAnewBehindAContradiction(check);
        beginsAnewBehindAWhole(check);
        wholeAndTrayStay(check);
        check.finish();
    }

    private static Sender begunAt(int time) {
        Sender sender = new Sender();
        sender.house.pass(time);
        sender.middle(1, 0, 8, 1);
        return sender;
    }

    private static void after(Check check, int begun, int time, int dropped) {
        if (begun > LATEST - time) {
            return;
        }
        Sender sender = begunAt(begun);
        String name = time + " behind " + begun;
        check.due(name, sender.house.pass(begun + time), dropped);
        check.due(name + ": making", sender.house.making(), 1 - dropped);
        check.due(name + ": the same time again", sender.house.pass(begun + time), 0);
    }

    /** What begins too late for its 15000 to come stays for ever. */
    private static void latestTime(Check check) {
        int[] begun = {LATEST - 14999, LATEST - 14998, LATEST - 1, LATEST};
        for (int time : begun) {
            Sender sender = begunAt(time);
            check.due("begun at " + time + ": pass to the latest", sender.house.pass(LATEST), 0);
            check.due("begun at " + time + ": making", sender.house.making(), 1);
            check.due("begun at " + time + ": last", sender.last(1, 1, 1, 1), 9);
        }
    }

    private static void manySmallSteps(Check check) {
        Sender sender = begunAt(7);
        for (int t = 107; t < 15007; t += 100) {
            check.due("pass(" + t + ")", sender.house.pass(t), 0);
        }
        check.due("pass(15006)", sender.house.pass(15006), 0);
        check.due("pass(15007)", sender.house.pass(15007), 1);
    }

    private static void allAtOnce(Check check) {
        for (int count = 0; count <= 4; count++) {
            Sender sender = new Sender();
            for (int key = 0; key < count; key++) {
                sender.middle(key, 0, 8, 1);
            }
            check.due(count + " at 14999", sender.house.pass(14999), 0);
            check.due(count + " at 15000", sender.house.pass(15000), count);
            check.counts(count + " at 15000", sender.house, 0, 0);
        }
    }

    private static Sender begunAtZeroToThree() {
        Sender sender = new Sender();
        for (int key = 0; key < 4; key++) {
            sender.house.pass(key);
            sender.middle(key, 0, 8, key);
        }
        return sender;
    }

    private static void oneBehindTheOther(Check check) {
        Sender sender = begunAtZeroToThree();
        check.due("pass(14999)", sender.house.pass(14999), 0);
        for (int key = 0; key < 4; key++) {
            check.due("pass to " + (15000 + key), sender.house.pass(15000 + key), 1);
            check.due("making", sender.house.making(), 3 - key);
        }
    }

    private static void everyNumberThatIsDue(Check check) {
        for (int count = 1; count <= 4; count++) {
            Sender sender = begunAtZeroToThree();
            check.due("pass over " + count, sender.house.pass(14999 + count), count);
            for (int key = 0; key < 4; key++) {
                check.due(key + " behind " + count, sender.last(key, 1, 1, 1), key < count ? -1 : 9);
            }
        }
        Sender sender = begunAtZeroToThree();
        check.due("pass over all", sender.house.pass(LATEST), 4);
    }

    private static void firstFragmentCounts(Check check) {
        Sender sender = begunAt(5);
        sender.house.pass(10000);
        sender.middle(1, 1, 8, 1);
        sender.house.pass(15004);
        check.due("a third one", sender.last(1, 9, 8, 1), -1);
        check.due("pass(15005)", sender.house.pass(15005), 1);
    }

    private static void droppedFragmentsAreNoFirst(Check check) {
        Sender sender = new Sender();
        check.due("an unsound one", sender.middle(1, 0, 7, 1), -2);
        check.due("one beyond the room", sender.last(1, 512, 1, 1), -2);
        sender.house.pass(5);
        sender.middle(1, 0, 8, 1);
        check.due("an unsound one again", sender.middle(1, 0, 7, 1), -2);
        check.due("pass(15004)", sender.house.pass(15004), 0);
        check.due("pass(15005)", sender.house.pass(15005), 1);
    }

    private static void livesFrom(Check check, String name, Sender sender, int begun) {
        check.due(name + ": 14999 behind", sender.house.pass(begun + 14999), 0);
        check.due(name + ": 15000 behind", sender.house.pass(begun + 15000), 1);
        check.due(name + ": making", sender.house.making(), 0);
    }

    /** A new one has its own time, and knows neither the end nor the bytes of the old one. */
    private static void beginsAnewBehindTime(Check check) {
        Sender sender = new Sender();
        sender.last(1, 1, 8, 1);
        check.due("pass(15000)", sender.house.pass(15000), 1);
        check.due("its first part begins a new one", sender.middle(1, 0, 8, 2), -1);
        check.due("another end is no contradiction", sender.last(1, 2, 8, 3), -1);
        check.due("pass(29999)", sender.house.pass(29999), 0);
        check.due("the rest", sender.middle(1, 1, 8, 4), 24);
        check.units("the new one", sender.house, 2, 4, 3);
        sender.middle(1, 0, 8, 2);
        livesFrom(check, "once more", sender, 29999);
    }

    private static void beginsAnewBehindAContradiction(Check check) {
        Sender sender = begunAt(5);
        sender.house.pass(100);
        check.due("another end", sender.last(1, 0, 7, 1), -3);
        sender.house.pass(200);
        sender.middle(1, 0, 8, 1);
        livesFrom(check, "behind a contradiction", sender, 200);
    }

    private static void beginsAnewBehindAWhole(Check check) {
        Sender sender = begunAt(5);
        sender.house.pass(100);
        check.due("whole", sender.last(1, 1, 7, 1), 15);
        sender.house.pass(200);
        sender.middle(1, 0, 8, 1);
        livesFrom(check, "behind a whole one", sender, 200);
    }

    private static void wholeAndTrayStay(Check check) {
        Sender sender = new Sender();
        sender.last(1, 0, 8, 6);
        sender.middle(2, 0, 8, 7);
        sender.fillTray(13, 8);
        check.due("pass(15000)", sender.house.pass(15000), 1);
        check.counts("behind it", sender.house, 0, 1);
        check.units("behind it", sender.house, 6);
        check.tray("behind it", sender.house, 13);
        check.due("the tray's bytes", sender.house.take(1, 1, 1, 0, true), 13);
        check.due("at(12)", sender.house.at(12), 8);
    }
}
