/** Promise 2: feed answers "-1, and none does, if it would have more than 1480." */
public final class TrayRoomBoundaryTest {
    private static final int OLD = 5;
    private static final int NEW = 6;
    private static final int NEW_WORD = NEW * 0x01010101;

    public static void main(String[] args) {
        Check check = new Check();
        int[] withRoom = {0, 1, 19, 20, 1440, 1459, 1460};
        for (int count : withRoom) {
            goesIn(check, count);
        }
        int[] withoutRoom = {1461, 1462, 1470, 1479, 1480};
        for (int count : withoutRoom) {
            doesNotGoIn(check, count);
        }
        everyStepUpToTheRoom(check);
        roomComesBack(check);
        check.finish();
    }

    private static int feedNew(FragmentHouse house) {
        return house.feed(NEW_WORD, NEW_WORD, NEW_WORD, NEW_WORD, NEW_WORD);
    }

    private static void goesIn(Check check, int count) {
        Sender sender = new Sender();
        sender.fillTray(count, OLD);
        String name = "feed to " + count;
        check.due(name, feedNew(sender.house), count + 20);
        check.tray(name, sender.house, count + 20);
        check.due(name + ": take", sender.house.take(1, 1, 1, 0, true), count + 20);
        check.due(name + ": last old byte", sender.house.at(count - 1), count == 0 ? -1 : OLD);
        for (int i = count; i < count + 20; i++) {
            check.due(name + ": new byte " + i, sender.house.at(i), NEW);
        }
    }

    private static void doesNotGoIn(Check check, int count) {
        Sender sender = new Sender();
        sender.fillTray(count, OLD);
        String name = "feed to " + count;
        check.due(name, feedNew(sender.house), -1);
        check.due(name + " once more", feedNew(sender.house), -1);
        check.tray(name, sender.house, count);
        check.due(name + ": take", sender.house.take(1, 1, 1, 0, true), count);
        for (int i = count - 20; i < count; i++) {
            check.due(name + ": old byte " + i, sender.house.at(i), OLD);
        }
        check.due(name + ": first old byte", sender.house.at(0), OLD);
        KnownState.refuses(check, name, count, -1, TrayRoomBoundaryTest::feedNew);
    }

    private static void everyStepUpToTheRoom(Check check) {
        FragmentHouse house = new FragmentHouse();
        for (int fed = 20; fed <= 1480; fed += 20) {
            check.due("feed up to " + fed, house.feed(fed, fed, fed, fed, fed), fed);
        }
        check.due("feed of a full tray", feedNew(house), -1);
        check.due("take of a full tray", house.take(1, 1, 1, 0, true), 1480);
        check.due("low byte of the first word", house.at(3), 20);
        check.due("low byte of the last word", house.at(1479), 1480 & 0xff);
    }

    private static void roomComesBack(Check check) {
        Sender sender = new Sender();
        sender.fillTray(1480, OLD);
        check.due("feed to 1480", feedNew(sender.house), -1);
        check.due("end(1461)", sender.house.end(1461), 1461);
        check.due("feed to 1461", feedNew(sender.house), -1);
        check.due("end(1460)", sender.house.end(1460), 1460);
        check.due("feed to 1460", feedNew(sender.house), 1480);
        check.due("take", sender.house.take(1, 1, 1, 0, true), 1480);
        check.due("at(1459)", sender.house.at(1459), OLD);
        check.due("at(1460)", sender.house.at(1460), NEW);
        check.due("at(1479)", sender.house.at(1479), NEW);
        check.due("feed behind the take", feedNew(sender.house), 20);
    }
}
