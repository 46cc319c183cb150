/** Promise 3: end answers "-1, and all stays, if n is below 0 or it has not so many." */
public final class EndBoundaryTest {
    private static final int[] COUNTS = {0, 1, 2, 7, 8, 19, 20, 21, 1460, 1479, 1480};

    public static void main(String[] args) {
        Check check = new Check();
        for (int count : COUNTS) {
            belowZero(check, count);
            notSoMany(check, count);
            asManyOrFewer(check, count);
        }
        behindATake(check);
        check.finish();
    }

    private static void belowZero(Check check, int count) {
        int[] below = {-1, -2, -count, -1480, Integer.MIN_VALUE + 1, Integer.MIN_VALUE};
        for (int n : below) {
            if (n < 0) {
                refuses(check, count, n);
            }
        }
    }

    private static void notSoMany(Check check, int count) {
        int[] above = {count + 1, count + 2, count + 20, 1481, Integer.MAX_VALUE - 1, Integer.MAX_VALUE};
        for (int n : above) {
            refuses(check, count, n);
        }
    }

    private static void refuses(Check check, int count, int n) {
        KnownState.refuses(check, "end(" + n + ")", count, -1, house -> house.end(n));
    }

    private static void asManyOrFewer(Check check, int count) {
        int[] inside = {0, 1, count / 2, count - 1, count};
        for (int n : inside) {
            if (n >= 0 && n <= count) {
                cuts(check, count, n);
            }
        }
    }

    private static void cuts(Check check, int count, int n) {
        String name = "end(" + n + ") of " + count;
        KnownState.stays(check, name, count, n, n, house -> house.end(n));
    }

    private static void behindATake(Check check) {
        Sender sender = new Sender();
        sender.last(1, 0, 20, 1);
        check.tray("behind a whole one", sender.house, 0);
        sender.middle(1, 0, 16, 1);
        check.tray("behind one that is not whole", sender.house, 0);
        sender.last(1, 0, 8, 1);
        check.tray("behind a dropped datagram", sender.house, 0);
        sender.middle(1, 0, 12, 1);
        check.tray("behind a dropped fragment", sender.house, 0);
    }
}
