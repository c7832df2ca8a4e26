import java.util.NoSuchElementException;

/**
 * What the tests share: answers compared with those that are due, and short texts of a state. A test
 * extends it, as classes without a package cannot be imported.
 */
abstract class Checks {
    static final int NONE = TooMany.NONE;
    static final int NOT_ENOUGH = -2;
    static final int LEAST = Integer.MIN_VALUE;
    static final int MOST = Integer.MAX_VALUE;
    private static String sentence = "";
    private static int wrong = 0;

    /** The sentence of the document that the answers behind it are about. */
    static void about(String words) {
        sentence = words + ": ";
    }

    static void due(String call, long got, long want) {
        dueText(call, Long.toString(got), Long.toString(want));
    }

    static void due(String call, boolean got, boolean want) {
        dueText(call, Boolean.toString(got), Boolean.toString(want));
    }

    static void dueText(String call, String got, String want) {
        if (!got.equals(want)) {
            wrong++;
            System.out.println(sentence + call + " answered " + got + ", due is " + want);
        }
    }

    static void dueThrow(String call, TooMany x, int party, int what) {
        String thrown = "nothing";
        try {
            x.of(party, what);
        } catch (RuntimeException e) {
            thrown = e.getClass().getName();
        }
        dueText(call + " of(" + party + ", " + what + ") throws", thrown, NoSuchElementException.class.getName());
    }

    /** Ends the program with exit code 1 if an answer was not the one that is due. */
    static void end() {
        if (wrong != 0) {
            System.out.println(wrong + " answers are not as due");
            System.exit(1);
        }
    }

    /** One flight from 0 to 1, minutes 100 to 200, 1000 miles. */
    static TooMany oneFlight(int seats) {
        TooMany x = new TooMany();
        x.flight(0, 1, 100, 200, seats, 1000);
        return x;
    }

    /** Parties of these sizes left on a flight from 0 to 1, minutes 100 to 200, that is off. */
    static TooMany allLeft(int... sizes) {
        TooMany x = oneFlight(1);
        for (int size : sizes) {
            x.party(0, size, 0, NONE, false);
        }
        x.off(0, true);
        x.leave(0);
        return x;
    }

    /** The states of all parties, one digit each. */
    static String states(TooMany x) {
        StringBuilder all = new StringBuilder();
        for (int p = 0; p < x.count(1); p++) {
            all.append(x.of(p, 0));
        }
        return all.toString();
    }

    /** First and second flight of each party's way, as 1-, 12, --. */
    static String ways(TooMany x) {
        StringBuilder all = new StringBuilder();
        for (int p = 0; p < x.count(1); p++) {
            all.append(p == 0 ? "" : " ");
            for (int what = 4; what < 6; what++) {
                int flight = x.of(p, what);
                all.append(flight == NONE ? "-" : String.valueOf(flight));
            }
        }
        return all.toString();
    }

    /** All that can be told of a party: state, flight, size, coin, first, second, late, claim. */
    static String party(TooMany x, int p) {
        StringBuilder all = new StringBuilder();
        for (int what = 0; what < 8; what++) {
            all.append(what == 0 ? "" : " ").append(x.of(p, what));
        }
        return all.toString();
    }

    /** All that can be told of a flight: load, over, seats, off, must. */
    static String flight(TooMany x, int f) {
        StringBuilder all = new StringBuilder();
        for (int what = 0; what < 5; what++) {
            all.append(what == 0 ? "" : " ").append(x.told(f, what));
        }
        return all.toString();
    }

    /** All that can be asked without a change, so that two moments can be compared. */
    static String whole(TooMany x) {
        StringBuilder all = new StringBuilder();
        for (int what = 0; what < 7; what++) {
            all.append(x.count(what)).append(' ');
        }
        for (int f = 0; f < x.count(0); f++) {
            all.append("; ").append(flight(x, f));
        }
        for (int p = 0; p < x.count(1); p++) {
            all.append("; ").append(party(x, p));
        }
        return all.toString();
    }
}
