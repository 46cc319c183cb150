/** Counts and prints the answers that are not the ones that are due. */
final class Check {
    private int wrong = 0;

    void due(String call, long got, long want) {
        if (got != want) {
            wrong++;
            System.out.println(call + " answered " + got + ", due is " + want);
        }
    }

    void holds(String claim, boolean isTrue) {
        if (!isTrue) {
            wrong++;
            System.out.println("does not hold: " + claim);
        }
    }

    /** The tray has just count bytes; looking so leaves it as it is. */
    void tray(String when, FragmentHouse house, int count) {
        due(when + ": tray, end(" + (count + 1) + ")", house.end(count + 1), -1);
        due(when + ": tray, end(" + count + ")", house.end(count), count);
    }

    /** The time is just t, and nothing is due to be dropped at it; looking so leaves it as it is. */
    void time(String when, FragmentHouse house, int t) {
        due(when + ": time, pass(" + (t - 1) + ")", house.pass(t - 1), -1);
        due(when + ": time, pass(" + t + ")", house.pass(t), 0);
    }

    void counts(String when, FragmentHouse house, int making, int made) {
        due(when + ": making()", house.making(), making);
        due(when + ": made()", house.made(), made);
    }

    /** The latest whole one has just these runs of eight bytes, all of a run worth the same. */
    void units(String when, FragmentHouse house, int... worths) {
        due(when + ": length()", house.length(), worths.length * 8);
        for (int i = 0; i < worths.length * 8; i++) {
            due(when + ": at(" + i + ")", house.at(i), worths[i / 8]);
        }
    }

    void finish() {
        System.out.println(wrong == 0 ? "all answers are as due" : wrong + " answers are not as due");
        if (wrong != 0) {
            System.exit(1);
        }
    }
}
