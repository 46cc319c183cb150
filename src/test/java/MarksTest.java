/** Promise 4, Terms: a sender, an identification and a protocol "are ints of any worth". */
public final class MarksTest {
    private static final int[] WORTHS = {
        Integer.MIN_VALUE, Integer.MIN_VALUE + 1, -65536, -256, -1, 0, 1, 31, 255, 256, 65535, 65536,
        65537, Integer.MAX_VALUE - 1, Integer.MAX_VALUE};

    public static void main(String[] args) {
        Check check = new Check();
        for (int one : WORTHS) {
            allTheSame(check, one);
            for (int other : WORTHS) {
                for (int place = 0; place < 3 && one != other; place++) {
                    toldApart(check, one, other, place);
                }
                exchanged(check, one, other);
            }
        }
        fourAtOnce(check);
        check.finish();
    }

    private static void allTheSame(Check check, int worth) {
        Sender sender = new Sender();
        check.due("first of " + worth, sender.middle(worth, 0, 8, 1), -1);
        check.due("last of " + worth, sender.last(worth, 1, 1, 1), 9);
        check.counts("marks " + worth, sender.house, 0, 1);
    }

    private static int take(Sender sender, int[] marks, int offset, int count, boolean last) {
        sender.fillTray(count, 1);
        return sender.house.take(marks[0], marks[1], marks[2], offset, last);
    }

    /** Two that differ in one mark alone. */
    private static void toldApart(Check check, int one, int other, int place) {
        int[] marks = {7, 7, 7};
        int[] otherMarks = {7, 7, 7};
        marks[place] = one;
        otherMarks[place] = other;
        areTwo(check, one + " and " + other + " at place " + place, marks, otherMarks);
    }

    /** Two that have the same marks in another order. */
    private static void exchanged(Check check, int one, int other) {
        if (one == other) {
            return;
        }
        int[] marks = {one, other, one};
        int[][] orders = {{other, one, one}, {one, one, other}, {other, one, other}};
        for (int[] order : orders) {
            areTwo(check, one + " and " + other + " in another order", marks, order);
        }
    }

    private static void areTwo(Check check, String name, int[] marks, int[] otherMarks) {
        Sender sender = new Sender();
        check.due(name + ": first", take(sender, marks, 0, 8, false), -1);
        check.due(name + ": the other's last", take(sender, otherMarks, 1, 1, true), -1);
        check.due(name + ": making", sender.house.making(), 2);
        check.due(name + ": its own last", take(sender, marks, 1, 2, true), 10);
        check.due(name + ": the other's first", take(sender, otherMarks, 0, 8, false), 9);
        check.counts(name, sender.house, 0, 2);
    }

    private static void fourAtOnce(Check check) {
        int low = Integer.MIN_VALUE;
        int high = Integer.MAX_VALUE;
        int[][] marks = {{low, high, -1}, {high, high, -1}, {low, low, -1}, {low, high, 0}};
        Sender sender = new Sender();
        for (int k = 0; k < 4; k++) {
            sender.fillTray(8, k);
            int[] its = marks[k];
            check.due("first of " + k, sender.house.take(its[0], its[1], its[2], 0, false), -1);
            check.due("making", sender.house.making(), k + 1);
        }
        for (int k = 0; k < 4; k++) {
            check.due("last of " + k, take(sender, marks[k], 1, 1, true), 9);
            check.due("its byte", sender.house.at(0), k);
        }
    }
}
