import java.util.NoSuchElementException;

/**
 * Terms 3: "Refused calls answer NONE, or false, and change nothing", each on an object of its own in
 * which parties fly, gave, were left, have a way or none, and flights are over or off; and the last
 * of the 512 calls that an object is used for.
 */
public final class BoundaryRefusedTest extends Checks {
    private static final int FALSE = 0;
    private static final int THROWN = -77;

    /** A call, a boolean counting 1 or 0. */
    private interface Call {
        int on(TooMany x);
    }

    public static void main(String[] args) {
        about("Terms 3: Refused calls answer NONE, or false, and change nothing");
        refusedFlights();
        refusedParties();
        refusedOffs();
        refusedSets();
        refusedQuestions();
        refusedBuying();
        refusedRounds();
        refusedLeaving();
        refusedBacks();
        refusedMove();
        the512thCall();
        end();
    }

    /**
     * Party 0 gave and has a way by 1, 1 was left and has none, 2 must and 3 flies on 0, which is one
     * over, 4 must on 4, which is four over, 5 flies on 5, which is off.
     */
    private static TooMany busy() {
        TooMany x = new TooMany();
        x.flight(0, 1, 100, 500, 3, 2000);
        x.flight(0, 1, 150, 650, 2, 1000);
        x.flight(0, 2, 100, 200, 9, 1000);
        x.flight(2, 1, 300, 800, 1, 1000);
        x.flight(1, 0, 100, 500, 2, 4000);
        x.flight(1, 2, 100, 500, 9, 1000);
        x.set(0, 50);
        x.set(1, 301);
        x.set(2, 402);
        x.set(3, 503);
        x.party(0, 2, 5, 10, false);
        x.party(0, 2, 0, NONE, false);
        x.buy(0);
        x.party(0, 3, 9, 1, true);
        x.leave(0);
        x.move();
        x.party(0, 1, 3, 5, false);
        x.party(4, 6, 0, 0, true);
        x.party(5, 1, 0, NONE, false);
        x.off(5, true);
        return x;
    }

    private static final String BUSY = "6 6 10 2 2 2 824 "
        + "; 4 1 3 0 3; 2 0 2 0 0; 0 0 9 0 0; 0 0 1 0 0; 6 4 2 0 6; 1 1 9 1 0"
        + "; 1 0 2 10 1 -1 150 20; 2 0 2 0 -1 -1 -1 804; 0 0 3 0 -1 -1 -1 0; 0 0 1 0 -1 -1 -1 0"
        + "; 0 4 6 0 -1 -1 -1 0; 0 5 1 0 -1 -1 -1 0";

    private static void dueRefused(String name, Call call, int answer) {
        TooMany x = busy();
        due(name, call.on(x), answer);
        dueBusy(name, x);
    }

    private static void dueBusy(String name, TooMany x) {
        dueText(name + ", then all", whole(x), BUSY);
        due(name + ", then late by two", x.late(1, 2, 3), 300);
        due(name + ", then stranded", x.stranded(), 1);
        int[] settings = {50, 301, 402, 503};
        for (int what = 0; what < settings.length; what++) {
            due(name + ", then set " + what, x.set(what, 1), settings[what]);
        }
        due(name + ", then the next flight", x.flight(0, 1, 0, 1, 1, 1), 6);
        due(name + ", then the next party", x.party(6, 1, 0, 0, false), 6);
    }

    private static void refusedFlights() {
        int[][] wrongs = {
            {-1, 1, 0, 1, 1, 1}, {8, 1, 0, 1, 1, 1}, {0, -1, 0, 1, 1, 1}, {0, 8, 0, 1, 1, 1}, {3, 3, 0, 1, 1, 1},
            {0, 1, -1, 1, 1, 1}, {0, 1, 5, 5, 1, 1}, {0, 1, 6, 5, 1, 1}, {0, 1, 0, 10000, 1, 1},
            {0, 1, 0, 1, 0, 1}, {0, 1, 0, 1, 41, 1}, {0, 1, 0, 1, 1, 0}, {0, 1, 0, 1, 1, 10000},
        };
        for (int[] w : wrongs) {
            dueRefused("flight", x -> x.flight(w[0], w[1], w[2], w[3], w[4], w[5]), NONE);
        }
    }

    private static void refusedParties() {
        int[][] wrongs = {
            {-1, 1, 0, 0}, {6, 1, 0, 0}, {0, 0, 0, 0}, {0, 7, 0, 0}, {0, 1, -1, 0}, {0, 1, 10, 0}, {0, 1, 0, -2}, {0, 1, 0, 1000},
        };
        for (int[] w : wrongs) {
            dueRefused("party", x -> x.party(w[0], w[1], w[2], w[3], false), NONE);
            dueRefused("party that must", x -> x.party(w[0], w[1], w[2], w[3], true), NONE);
        }
    }

    private static void refusedOffs() {
        for (int flight : new int[] {-1, 6, 8, LEAST, MOST}) {
            dueRefused("off", x -> x.off(flight, true) ? 1 : 0, FALSE);
            dueRefused("goes", x -> x.off(flight, false) ? 1 : 0, FALSE);
        }
    }

    private static void refusedSets() {
        int[][] wrongs = {{-1, 1}, {4, 1}, {LEAST, 1}, {MOST, 1}, {0, -1}, {0, 301}, {1, -1}, {1, 10000}, {2, -1}, {2, 10000}, {3, -1}, {3, 10000}};
        for (int[] w : wrongs) {
            dueRefused("set", x -> x.set(w[0], w[1]), NONE);
        }
    }

    private static int thrownOr(TooMany x, int party, int what) {
        try {
            return x.of(party, what);
        } catch (NoSuchElementException e) {
            return THROWN;
        }
    }

    private static void refusedQuestions() {
        for (int none : new int[] {-1, 6, LEAST, MOST}) {
            dueRefused("told of no flight", x -> x.told(none, 0), NONE);
            dueRefused("of no party", x -> thrownOr(x, none, 0), THROWN);
            dueRefused("cost of no flight", x -> x.cost(none), NONE);
            dueRefused("late of no party", x -> x.late(none, 1, NONE), NONE);
            dueRefused("late by no flight", x -> x.late(0, none, NONE), NONE);
        }
        dueRefused("told of another what", x -> x.told(0, 5), NONE);
        dueRefused("of another what", x -> thrownOr(x, 0, 8), THROWN);
        dueRefused("count of another what", x -> x.count(7), NONE);
        dueRefused("late by no way", x -> x.late(0, 2, NONE), NONE);
        dueRefused("cost that is not enough", x -> x.cost(4), NOT_ENOUGH);
        dueRefused("cost", x -> x.cost(0), 5);
    }

    private static void refusedBuying() {
        for (int none : new int[] {-1, 6, LEAST, MOST}) {
            dueRefused("buy on no flight", x -> x.buy(none), NONE);
        }
        dueRefused("buy, only must", x -> x.buy(4), NOT_ENOUGH);
        dueRefused("buy, no bid", x -> x.buy(5), NOT_ENOUGH);
        dueRefused("buy, none is over", x -> x.buy(1), 0);
    }

    private static void refusedRounds() {
        int[][] wrongs = {{-1, 5, 1}, {6, 5, 1}, {0, -1, 1}, {0, 1000, 1}, {0, 5, 0}, {0, 5, 1000}, {0, LEAST, MOST}};
        for (int[] w : wrongs) {
            dueRefused("rounds", x -> x.rounds(w[0], w[1], w[2]), NONE);
        }
        dueRefused("rounds, only must", x -> x.rounds(4, 0, 1), NOT_ENOUGH);
        dueRefused("rounds, no bid", x -> x.rounds(5, 999, 1), NOT_ENOUGH);
        dueRefused("rounds, no second offer", x -> x.rounds(0, 4, 999), NOT_ENOUGH);
        dueRefused("rounds, none is over", x -> x.rounds(1, 7, 1), 7);
    }

    private static void refusedLeaving() {
        for (int none : new int[] {-1, 6, LEAST, MOST}) {
            dueRefused("leave on no flight", x -> x.leave(none), NONE);
        }
        dueRefused("leave, only must", x -> x.leave(4), NOT_ENOUGH);
        dueRefused("leave, none is over", x -> x.leave(1), 0);
    }

    private static void refusedBacks() {
        for (int none : new int[] {-1, 6, LEAST, MOST}) {
            dueRefused("back of no party", x -> x.back(none) ? 1 : 0, FALSE);
        }
        dueRefused("back of one that flies", x -> x.back(3) ? 1 : 0, FALSE);
        dueRefused("back of one that gave, no seats", x -> x.back(0) ? 1 : 0, FALSE);
        dueRefused("back of one that was left, no seats", x -> x.back(1) ? 1 : 0, FALSE);
        dueRefused("move without seats", TooMany::move, 0);
        dueRefused("undo of nothing", TooMany::undo, 0);
    }

    private static void refusedMove() {
        TooMany x = busy();
        for (int n = 0; n < 6; n++) {
            x.party(5, 1, 0, NONE, false);
        }
        x.leave(5);
        x.flight(1, 2, 100, 500, 40, 1000);
        String ahead = whole(x);
        due("stranded", x.stranded(), 8);
        due("move of 8", x.move(), NONE);
        dueText("move of 8, then all", whole(x), ahead);
    }

    private static void the512thCall() {
        about("An object is used for at most 512 calls after it has been made");
        TooMany x = oneFlight(2);
        x.flight(0, 1, 100, 300, 2, 1000);
        x.party(0, 2, 0, 5, false);
        int calls = 3;
        for (int round = 0; round < 84; round++) {
            due("off", x.off(0, true), true);
            due("buy", x.buy(0), 10);
            due("move", x.move(), 2);
            due("goes", x.off(0, false), true);
            due("late", x.of(0, 6), 100);
            due("back", x.back(0), true);
            calls += 6;
        }
        due("off", x.off(0, true), true);
        due("leave", x.leave(0), 2);
        due("stranded", x.stranded(), 1);
        due("seats", x.told(1, 0), 0);
        due("calls so far", calls + 4, 511);
        due("the 512th", x.move(), 2);
    }
}
