import java.util.ArrayList;
import java.util.Collections;
import java.util.List;
import java.util.Random;

/**
 * What it is: "Puts datagrams together from fragments that come in any order, doubled, overlapping
 * or contradicting one another, up to four at a time, and gives up those that take too long."
 */
public final class FirstSentenceTest {
    private static final int SHUFFLES = 300;
    private static final int[][] CUTS = {{0, 8}, {8, 24}, {24, 32}, {32, 48}, {48, 53}};
    private static final int[][] OVERLAPPING = {
        {0, 16}, {8, 24}, {0, 8}, {24, 40}, {16, 48}, {40, 53}, {48, 53}, {32, 53}};

    public static void main(String[] args) {
        Check check = new Check();
        everyOrder(check);
        doubled(check);
        overlapping(check);
        contradicting(check);
        contradictingBytes(check);
        fourAtATime(check);
        takeTooLong(check);
        check.finish();
    }

    private static void everyOrder(Check check) {
        List<List<Integer>> orders = ordersOf(CUTS.length);
        check.due("orders of five", orders.size(), 120);
        for (List<Integer> order : orders) {
            comeInOrder(check, "in order " + order, CUTS, order);
        }
    }

    private static List<List<Integer>> ordersOf(int count) {
        List<List<Integer>> orders = new ArrayList<>();
        if (count == 0) {
            orders.add(new ArrayList<>());
            return orders;
        }
        for (List<Integer> shorter : ordersOf(count - 1)) {
            for (int place = 0; place < count; place++) {
                List<Integer> order = new ArrayList<>(shorter);
                order.add(place, count - 1);
                orders.add(order);
            }
        }
        return orders;
    }

    /** Whole just when the last missing byte comes; what is left of the order then is not sent. */
    private static void comeInOrder(Check check, String name, int[][] cuts, List<Integer> order) {
        FragmentHouse house = new FragmentHouse();
        Message message = new Message(1, 53);
        for (int cut : order) {
            if (!message.isWhole()) {
                int got = message.bring(house, cuts[cut][0], cuts[cut][1]);
                check.due(name + ": fragment " + cut, got, message.due());
            }
        }
        check.holds(name + ": all of it was sent", message.isWhole());
        check.counts(name, house, 0, 1);
        message.isShown(check, name, house);
    }

    private static void doubled(Check check) {
        List<Integer> twice = new ArrayList<>();
        for (int k = 0; k < CUTS.length; k++) {
            twice.add(k);
            twice.add(k);
        }
        for (int run = 0; run < SHUFFLES; run++) {
            Collections.shuffle(twice, new Random(run));
            comeInOrder(check, "doubled, in order " + twice, CUTS, twice);
        }
    }

    private static void overlapping(Check check) {
        List<Integer> order = new ArrayList<>();
        for (int k = 0; k < OVERLAPPING.length; k++) {
            order.add(k);
        }
        for (int run = 0; run < SHUFFLES; run++) {
            Collections.shuffle(order, new Random(run));
            comeInOrder(check, "overlapping, in order " + order, OVERLAPPING, order);
        }
    }

    /** Fragment 0 goes with both of the others, 1 and 2 contradict one another. */
    private static void contradicting(Check check) {
        boolean[] middleAndLast = {false, false, true};
        boolean[] twoLasts = {false, true, true};
        for (List<Integer> order : ordersOf(3)) {
            comeContradicting(check, order, new int[] {0, 3, 2}, middleAndLast);
            comeContradicting(check, order, new int[] {0, 3, 2}, twoLasts);
            comeContradicting(check, order, new int[] {0, 2, 3}, twoLasts);
        }
    }

    private static void comeContradicting(Check check, List<Integer> order, int[] offsets, boolean[] lasts) {
        Sender sender = new Sender();
        boolean oneCame = false;
        for (int k : order) {
            boolean dropped = oneCame && k != 0;
            String name = "contradicting, " + k + " of " + order;
            check.due(name, sender.bring(1, offsets[k], 8, k, lasts[k]), dropped ? -3 : -1);
            check.counts(name, sender.house, dropped ? 0 : 1, 0);
            oneCame |= k != 0;
        }
    }

    /** Where the bytes alone contradict, nothing is dropped: those that came first stay. */
    private static void contradictingBytes(Check check) {
        for (List<Integer> order : ordersOf(2)) {
            Sender sender = new Sender();
            for (int k : order) {
                check.due("bytes " + k + " of " + order, sender.middle(1, 0, 8, 60 + k), -1);
            }
            check.due("last of " + order, sender.last(1, 1, 0, 0), 8);
            check.units("bytes of " + order, sender.house, 60 + order.get(0));
        }
    }

    private static void fourAtATime(Check check) {
        List<int[]> all = new ArrayList<>();
        for (int key = 0; key < 4; key++) {
            for (int[] cut : CUTS) {
                all.add(new int[] {key, cut[0], cut[1]});
            }
        }
        for (int run = 0; run < SHUFFLES; run++) {
            Collections.shuffle(all, new Random(run));
            comeMixed(check, "four at a time, run " + run, all);
        }
    }

    private static void comeMixed(Check check, String name, List<int[]> all) {
        FragmentHouse house = new FragmentHouse();
        Message[] messages = new Message[4];
        int begun = 0;
        int made = 0;
        for (int[] one : all) {
            int key = one[0];
            if (messages[key] == null) {
                messages[key] = new Message(key, 53);
                begun++;
            }
            Message message = messages[key];
            check.due(name, message.bring(house, one[1], one[2]), message.due());
            if (message.isWhole()) {
                made++;
                message.isShown(check, name, house);
            }
            check.counts(name, house, begun - made, made);
        }
    }

    private static void takeTooLong(Check check) {
        Sender sender = new Sender();
        for (int key = 1; key <= 4; key++) {
            sender.middle(key, 0, 8, key);
        }
        check.due("not too long yet", sender.house.pass(14999), 0);
        check.due("one comes in time", sender.last(3, 1, 8, 30), 16);
        check.due("the others take too long", sender.house.pass(15000), 3);
        check.due("their rest begins new ones", sender.last(2, 1, 8, 20), -1);
        check.counts("behind them", sender.house, 1, 1);
        check.units("what came in time", sender.house, 3, 30);
    }
}
