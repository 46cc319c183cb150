/**
 * Promise 4, Terms: "If the end is known then, and all bytes before it are there, the datagram is
 * WHOLE: it is in the making no more, and can be looked at till the next one is whole."
 */
public final class WholeBoundaryTest {
    private static final int UNITS = 5;

    public static void main(String[] args) {
        Check check = new Check();
        for (int unit = 0; unit < UNITS; unit++) {
            oneUnitIsMissing(check, unit, true);
            oneUnitIsMissing(check, unit, false);
        }
        onlyTheEndIsMissing(check);
        smallestOnes(check);
        emptyLastBehindAGap(check);
        inTheMakingNoMore(check);
        lookedAtTillTheNext(check);
        check.finish();
    }

    /** The end is told first or as the last but one; the unit that is missing comes then. */
    private static void oneUnitIsMissing(Check check, int missing, boolean endFirst) {
        Sender sender = new Sender();
        String name = "without unit " + missing;
        if (endFirst) {
            check.due(name + ": empty last", sender.last(1, UNITS, 0, 0), -1);
        }
        for (int unit = 0; unit < UNITS; unit++) {
            if (unit != missing) {
                check.due(name + ": unit " + unit, sender.middle(1, unit, 8, unit), -1);
            }
        }
        if (!endFirst) {
            check.due(name + ": empty last", sender.last(1, UNITS, 0, 0), -1);
        }
        check.counts(name, sender.house, 1, 0);
        check.due(name + ": length()", sender.house.length(), -1);
        check.due(name + ": it comes", sender.middle(1, missing, 8, missing), UNITS * 8);
        check.counts(name + ", and it came", sender.house, 0, 1);
        check.units(name + ", and it came", sender.house, 0, 1, 2, 3, 4);
    }

    private static void onlyTheEndIsMissing(Check check) {
        Sender sender = new Sender();
        check.due("24 bytes", sender.middle(1, 0, 24, 1), -1);
        check.due("8 more", sender.middle(1, 3, 8, 2), -1);
        check.counts("the end is not known", sender.house, 1, 0);
        check.due("length()", sender.house.length(), -1);
        check.due("it is told over bytes that are there", sender.last(1, 3, 8, 9), 32);
        check.units("behind it", sender.house, 1, 1, 1, 2);
    }

    private static void smallestOnes(Check check) {
        for (int count = 0; count <= 9; count++) {
            Sender sender = new Sender();
            check.due("whole of " + count, sender.last(1, 0, count, 1), count);
            check.counts("whole of " + count, sender.house, 0, 1);
            check.due("length()", sender.house.length(), count);
        }
        Sender sender = new Sender();
        check.due("9 bytes, the ninth first", sender.last(1, 1, 1, 1), -1);
        check.due("9 bytes, the eight then", sender.middle(1, 0, 8, 1), 9);
    }

    private static void emptyLastBehindAGap(Check check) {
        Sender sender = new Sender();
        check.due("8 bytes", sender.middle(1, 0, 8, 1), -1);
        check.due("empty last one unit beyond them", sender.last(1, 2, 0, 0), -1);
        check.due("the same once more", sender.last(1, 2, 0, 0), -1);
        check.due("the same 8 bytes", sender.middle(1, 0, 8, 3), -1);
        check.due("the gap is filled", sender.middle(1, 1, 8, 2), 16);
        sender.middle(1, 0, 8, 1);
        check.due("empty last just behind the bytes", sender.last(1, 1, 0, 0), 8);
    }

    /** What comes for the same marks then begins a new one, a late double too. */
    private static void inTheMakingNoMore(Check check) {
        Sender sender = new Sender();
        sender.middle(1, 0, 8, 1);
        check.due("whole", sender.last(1, 1, 8, 1), 16);
        check.due("a late double", sender.last(1, 1, 8, 2), -1);
        check.counts("behind the double", sender.house, 1, 1);
        check.due("another end contradicts the new one alone", sender.last(1, 1, 1, 2), -3);
        check.counts("behind the other end", sender.house, 0, 1);
        check.units("the whole one stays", sender.house, 1, 1);
        check.due("beyond the end that was", sender.middle(1, 3, 8, 3), -1);
        check.due("the new one's end", sender.last(1, 4, 0, 0), -1);
        check.due("the new one's bytes", sender.middle(1, 0, 24, 4), 32);
        check.units("the new one", sender.house, 4, 4, 4, 3);
        check.counts("the new one", sender.house, 0, 2);
    }

    private static void lookedAtTillTheNext(Check check) {
        Sender sender = new Sender();
        sender.last(1, 0, 16, 1);
        for (int key = 1; key <= 5; key++) {
            sender.middle(key, 0, 8, 50 + key);
        }
        check.units("others begin", sender.house, 1, 1);
        sender.last(2, 0, 1, 0);
        check.units("another is contradicted", sender.house, 1, 1);
        sender.house.pass(15000);
        check.units("others are too late", sender.house, 1, 1);
        sender.last(3, 0, 8, 2);
        check.units("the next is whole", sender.house, 2);
    }
}
