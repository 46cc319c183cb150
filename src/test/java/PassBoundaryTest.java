/** Promise 5: pass answers "-1 if t is below the time that it is, or above 2000000000." */
public final class PassBoundaryTest {
    private static final int LATEST = 2000000000;
    private static final int[] TIMES = {0, 1, 100, 14999, 15000, LATEST - 1, LATEST};

    public static void main(String[] args) {
        Check check = new Check();
        for (int time : TIMES) {
            belowTheTime(check, time);
            aboveTheLatest(check, time);
            atOrBehindTheTime(check, time);
        }
        changesNothing(check);
        dropsNone(check);
        check.finish();
    }

    private static FragmentHouse at(int time) {
        FragmentHouse house = new FragmentHouse();
        house.pass(time);
        return house;
    }

    private static void belowTheTime(Check check, int time) {
        int[] below = {time - 1, time - 2, -1, Integer.MIN_VALUE + 1, Integer.MIN_VALUE};
        for (int t : below) {
            refused(check, time, t);
        }
    }

    private static void aboveTheLatest(Check check, int time) {
        int[] above = {LATEST + 1, LATEST + 2, Integer.MAX_VALUE - 1, Integer.MAX_VALUE};
        for (int t : above) {
            refused(check, time, t);
        }
    }

    private static void refused(Check check, int time, int t) {
        FragmentHouse house = at(time);
        String name = "pass(" + t + ") at " + time;
        check.due(name, house.pass(t), -1);
        check.time(name, house, time);
    }

    private static void atOrBehindTheTime(Check check, int time) {
        int[] inside = {time, time + 1, time + 2, LATEST - 1, LATEST};
        for (int t : inside) {
            if (t >= time && t <= LATEST) {
                FragmentHouse house = at(time);
                String name = "pass(" + t + ") at " + time;
                check.due(name, house.pass(t), 0);
                check.time(name, house, t);
            }
        }
    }

    private static void changesNothing(Check check) {
        int now = KnownState.TIME;
        int[] refused = {now - 1, 300, 0, -1, Integer.MIN_VALUE, LATEST + 1, Integer.MAX_VALUE};
        int[] trays = {0, 13, 1480};
        for (int t : refused) {
            for (int tray : trays) {
                KnownState.refuses(check, "pass(" + t + ")", tray, -1, house -> house.pass(t));
            }
        }
        KnownState.stays(check, "pass to the same time", 13, 13, 0, house -> house.pass(now));
    }

    private static void dropsNone(Check check) {
        Sender sender = new Sender();
        sender.middle(1, 0, 8, 1);
        sender.house.pass(14999);
        check.due("pass(2000000001)", sender.house.pass(LATEST + 1), -1);
        check.due("pass(14998)", sender.house.pass(14998), -1);
        check.due("making", sender.house.making(), 1);
        check.due("pass(15000)", sender.house.pass(15000), 1);
        check.due("pass(14999) then", sender.house.pass(14999), -1);
    }
}
