/**
 * A house brought into a state of which every part is known, so that a call can be shown to have
 * left all of it alone: a whole datagram, three in the making that began at three times, the time
 * 1000 and a tray.
 */
final class KnownState {
    static final int TIME = 1000;
    static final int NO_SUCH_KEY = 9;
    private static final int WHOLE_LENGTH = 11;

    interface Call {
        int on(FragmentHouse house);
    }

    private KnownState() {
    }

    /** The call answers what is due, and all is as before but for the tray, which has trayAfter. */
    static void stays(Check check, String name, int trayBefore, int trayAfter, int due, Call call) {
        FragmentHouse goesOn = made(trayBefore);
        check.due(name, call.on(goesOn), due);
        looksTheSame(check, name, goesOn, trayAfter);
        goesOnTheSame(check, name, goesOn, trayAfter);
        FragmentHouse expires = made(trayBefore);
        call.on(expires);
        expiresTheSame(check, name, expires);
    }

    /** The call is refused with the answer that is due, and changes nothing. */
    static void refuses(Check check, String name, int tray, int due, Call call) {
        stays(check, name + " with " + tray + " in the tray", tray, tray, due, call);
    }

    private static FragmentHouse made(int trayCount) {
        FragmentHouse house = new FragmentHouse();
        Sender sender = new Sender(house);
        house.feed(0x01020304, 0x05060708, 0x090a0b0c, 0, 0);
        house.end(WHOLE_LENGTH);
        house.take(NO_SUCH_KEY, 0, 0, 0, true);
        house.pass(100);
        sender.middle(1, 0, 8, 10);
        house.pass(200);
        sender.last(2, 1, 5, 20);
        house.pass(300);
        sender.middle(3, 2, 8, 30);
        house.pass(TIME);
        for (int i = 0; i < trayCount; i += 20) {
            house.feed(word(i), word(i + 4), word(i + 8), word(i + 12), word(i + 16));
        }
        house.end(trayCount);
        return house;
    }

    private static int trayByte(int i) {
        return (i * 7 + 3) & 0xff;
    }

    private static int word(int i) {
        return trayByte(i) << 24 | trayByte(i + 1) << 16 | trayByte(i + 2) << 8 | trayByte(i + 3);
    }

    private static void looksTheSame(Check check, String name, FragmentHouse house, int trayCount) {
        check.counts(name, house, 3, 1);
        check.due(name + ": length()", house.length(), WHOLE_LENGTH);
        check.due(name + ": at(-1)", house.at(-1), -1);
        for (int i = 0; i < WHOLE_LENGTH; i++) {
            check.due(name + ": at(" + i + ")", house.at(i), i + 1);
        }
        check.due(name + ": at behind the last", house.at(WHOLE_LENGTH), -1);
        check.tray(name, house, trayCount);
        check.time(name, house, TIME);
    }

    private static void goesOnTheSame(Check check, String name, FragmentHouse house, int trayCount) {
        Sender sender = new Sender(house);
        int key = NO_SUCH_KEY;
        check.due(name + ": the tray is whole", house.take(key, key, key, 0, true), trayCount);
        // An object is good for 512 calls, so that of a long tray some bytes must do.
        for (int i = 0; i < trayCount; i += 1 + trayCount / 100) {
            check.due(name + ": tray byte " + i, house.at(i), trayByte(i));
        }
        check.due(name + ": last of the first", sender.last(1, 1, 8, 11), 16);
        check.units(name + ", first", house, 10, 11);
        check.due(name + ": rest of the second", sender.middle(2, 0, 8, 21), 13);
        check.due(name + ": second, at(7)", house.at(7), 21);
        check.due(name + ": second, at(8)", house.at(8), 20);
        check.due(name + ": last of the third", sender.last(3, 3, 0, 0), -1);
        check.due(name + ": rest of the third", sender.middle(3, 0, 24, 31), 24);
        check.units(name + ", third", house, 31, 31, 30);
        check.counts(name + ", all whole", house, 0, 5);
    }

    private static void expiresTheSame(Check check, String name, FragmentHouse house) {
        for (int begun = 100; begun <= 300; begun += 100) {
            check.due(name + ": pass to 14999 behind " + begun, house.pass(begun + 14999), 0);
            check.due(name + ": pass to 15000 behind " + begun, house.pass(begun + 15000), 1);
        }
        check.counts(name + ", all too late", house, 0, 1);
    }
}
