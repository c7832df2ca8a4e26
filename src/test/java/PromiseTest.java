/** One function a promise: ordinary inputs, the edges that the document names, wrong inputs. */
public final class PromiseTest extends Checks {
    public static void main(String[] args) {
        promise1New();
        promise2Flight();
        promise3Off();
        promise4Party();
        promise5Set();
        promise6Told();
        promise7Of();
        promise7Claims();
        promise8Count();
        promise9Cost();
        promise9CostTies();
        promise10Buy();
        promise11Rounds();
        promise11RoundsEdges();
        promise12Leave();
        promise13Back();
        promise14Late();
        promise15Stranded();
        promise16Move();
        promise16MoveOrder();
        promise16MoveLoads();
        promise16MoveLimit();
        promise16MoveWeights();
        promise17Undo();
        end();
    }

    private static void promise1New() {
        TooMany x = new TooMany();
        for (int what = 0; what < 7; what++) {
            due("new count(" + what + ")", x.count(what), 0);
        }
        due("new stranded", x.stranded(), 0);
        due("new move", x.move(), 0);
        due("new undo", x.undo(), 0);
        due("new cost", x.cost(0), NONE);
        due("new told", x.told(0, 0), NONE);
        due("new set 0", x.set(0, 45), 45);
        due("new set 1", x.set(1, 250), 250);
        due("new set 2", x.set(2, 400), 400);
        due("new set 3", x.set(3, 600), 600);
        dueThrow("new", x, 0, 0);
        TooMany other = oneFlight(1);
        due("others stay new", x.count(0), 0);
        due("one flight", other.count(0), 1);
    }

    private static void promise2Flight() {
        TooMany x = new TooMany();
        int[][] wrongs = {
            {-1, 1, 0, 1, 1, 1}, {8, 1, 0, 1, 1, 1}, {0, -1, 0, 1, 1, 1}, {0, 8, 0, 1, 1, 1}, {3, 3, 0, 1, 1, 1},
            {0, 1, -1, 1, 1, 1}, {0, 1, 5, 5, 1, 1}, {0, 1, 6, 5, 1, 1}, {0, 1, 0, 10000, 1, 1},
            {0, 1, 10000, 10001, 1, 1}, {0, 1, 0, 1, 0, 1}, {0, 1, 0, 1, 41, 1}, {0, 1, 0, 1, 1, 0},
            {0, 1, 0, 1, 1, 10000}, {LEAST, MOST, 0, 1, 1, 1}, {0, 1, LEAST, MOST, 1, 1},
            {0, 1, 0, 1, LEAST, 1}, {0, 1, 0, 1, 1, MOST},
        };
        for (int[] w : wrongs) {
            due("flight, wrong", x.flight(w[0], w[1], w[2], w[3], w[4], w[5]), NONE);
        }
        due("flight, wrong, count", x.count(0), 0);
        due("flight, least", x.flight(0, 7, 0, 1, 1, 1), 0);
        due("flight, most", x.flight(7, 0, 9998, 9999, 40, 9999), 1);
        due("its seats", x.told(1, 2), 40);
        due("it goes", x.told(1, 3), 0);
        for (int n = 2; n < 8; n++) {
            due("flight " + n, x.flight(0, 1, 0, 1, 1, 1), n);
        }
        due("a ninth flight", x.flight(0, 1, 0, 1, 1, 1), NONE);
        due("count of 8", x.count(0), 8);
        due("behind the last one", x.told(8, 0), NONE);
        due("off behind the last one", x.off(8, true), false);
    }

    private static void promise3Off() {
        TooMany x = oneFlight(4);
        due("off of none", x.off(1, true), false);
        due("off of -1", x.off(-1, true), false);
        due("off of the least", x.off(LEAST, true), false);
        due("off", x.off(0, true), true);
        due("it is off", x.told(0, 3), 1);
        due("off again", x.off(0, true), true);
        due("still off", x.told(0, 3), 1);
        due("goes", x.off(0, false), true);
        due("it goes", x.told(0, 3), 0);
        x.flight(0, 1, 300, 400, 4, 1000);
        x.party(0, 3, 1, NONE, false);
        x.party(0, 3, 1, NONE, false);
        x.leave(0);
        x.move();
        due("way ahead", x.of(1, 4), 1);
        x.off(1, true);
        due("way stays", x.of(1, 4), 1);
        due("LATE stays", x.of(1, 6), 200);
        due("LOAD stays", x.told(1, 0), 3);
        due("OVER is LOAD whole", x.told(1, 1), 3);
    }

    private static void promise4Party() {
        TooMany x = new TooMany();
        due("party of no flight", x.party(0, 1, 0, 0, false), NONE);
        x.flight(0, 1, 100, 200, 4, 1000);
        int[][] wrongs = {
            {-1, 1, 0, 0}, {1, 1, 0, 0}, {MOST, 1, 0, 0}, {0, 0, 0, 0}, {0, 7, 0, 0}, {0, LEAST, 0, 0},
            {0, 1, -1, 0}, {0, 1, 10, 0}, {0, 1, 0, -2}, {0, 1, 0, 1000}, {0, 1, 0, LEAST},
        };
        for (int[] w : wrongs) {
            due("party, wrong", x.party(w[0], w[1], w[2], w[3], false), NONE);
        }
        due("party, wrong, count", x.count(1), 0);
        due("party, least", x.party(0, 1, 0, NONE, false), 0);
        due("party, most", x.party(0, 6, 9, 999, true), 1);
        due("its state", x.of(1, 0), 0);
        due("its size", x.of(1, 2), 6);
        x.off(0, true);
        due("party on one that is off", x.party(0, 2, 1, 0, false), 2);
        due("load", x.told(0, 0), 9);
        for (int n = 3; n < 20; n++) {
            due("party " + n, x.party(0, 1, 1, 1, false), n);
        }
        due("party 20", x.party(0, 1, 1, 1, false), NONE);
        due("count of 20", x.count(1), 20);
        due("the last one", x.of(19, 2), 1);
        dueThrow("behind the last one", x, 20, 0);
        due("back behind the last one", x.back(20), false);
        due("late behind the last one", x.late(20, 0, NONE), NONE);
    }

    private static void promise5Set() {
        TooMany x = new TooMany();
        int[][] wrongs = {{-1, 1}, {4, 1}, {LEAST, 1}, {MOST, 1}, {0, -1}, {0, 301}, {1, -1}, {1, 10000}, {2, LEAST}, {3, MOST}};
        for (int[] w : wrongs) {
            due("set, wrong", x.set(w[0], w[1]), NONE);
        }
        due("change", x.set(0, 300), 45);
        due("change to 0", x.set(0, 0), 300);
        due("change was 0", x.set(0, 7), 0);
        due("fee 0", x.set(1, 0), 250);
        due("fee 1", x.set(2, 9999), 400);
        due("fee 2", x.set(3, 5), 600);
        due("fee 0 was", x.set(1, 1), 0);
        due("fee 1 was", x.set(2, 1), 9999);
        due("fee 2 was", x.set(3, 1), 5);
        due("change was", x.set(0, 1), 7);
    }

    private static void promise6Told() {
        TooMany x = oneFlight(4);
        x.flight(0, 2, 100, 150, 9, 500);
        x.flight(2, 1, 300, 400, 9, 500);
        x.party(0, 2, 3, 10, true);
        x.party(0, 3, 2, 10, false);
        x.party(0, 1, 1, NONE, true);
        x.party(1, 1, 1, NONE, true);
        due("LOAD", x.told(0, 0), 6);
        due("OVER", x.told(0, 1), 2);
        due("SEATS", x.told(0, 2), 4);
        due("OFF", x.told(0, 3), 0);
        due("MUST", x.told(0, 4), 3);
        due("OVER is 0 at least", x.told(1, 1), 0);
        due("LOAD of none on it", x.told(2, 0), 0);
        for (int what : new int[] {-1, 5, LEAST, MOST}) {
            due("told, another what", x.told(0, what), NONE);
        }
        for (int flight : new int[] {-1, 3, LEAST, MOST}) {
            due("told, none such", x.told(flight, 0), NONE);
        }
        x.off(0, true);
        due("OVER of one that is off", x.told(0, 1), 6);
        due("OFF of it", x.told(0, 3), 1);
        due("MUST of it", x.told(0, 4), 3);
        x.off(0, false);
        x.buy(0);
        due("LOAD without one that gave", x.told(0, 0), 3);
        x.move();
        due("LOAD of a first flight", x.told(1, 0), 4);
        due("LOAD of a second flight", x.told(2, 0), 3);
        due("MUST of a first flight", x.told(1, 4), 1);
        x.off(2, true);
        due("OVER of a second flight that is off", x.told(2, 1), 3);
    }

    private static void promise7Of() {
        TooMany x = oneFlight(2);
        x.flight(0, 2, 100, 150, 9, 500);
        x.flight(2, 1, 300, 400, 9, 500);
        x.party(0, 2, 3, 10, false);
        x.party(0, 2, 1, 7, false);
        x.party(1, 3, 1, 7, false);
        due("FLIGHT", x.of(2, 1), 1);
        due("SIZE", x.of(2, 2), 3);
        int[] flying = {0, 0, 2, 0, NONE, NONE, NONE, 0};
        for (int what = 0; what < 8; what++) {
            due("of one that flies, " + what, x.of(1, what), flying[what]);
        }
        x.rounds(0, 3, 10);
        int[] gave = {1, 0, 2, 13, NONE, NONE, NONE, 26};
        due("the other flies", x.of(0, 0), 0);
        for (int what = 0; what < 8; what++) {
            due("of one that gave, " + what, x.of(1, what), gave[what]);
        }
        x.move();
        int[] moved = {1, 0, 2, 13, 1, 2, 200, 26};
        for (int what = 0; what < 8; what++) {
            due("of one that was moved, " + what, x.of(1, what), moved[what]);
        }
        for (int party : new int[] {-1, 3, LEAST, MOST}) {
            dueThrow("none such", x, party, 0);
        }
        for (int what : new int[] {-1, 8, LEAST, MOST}) {
            dueThrow("another what", x, 0, what);
        }
    }

    /** A party of 3 left on a flight of so many miles, with a later flight so much later (none: 0). */
    private static TooMany leftBehind(int miles, int late) {
        TooMany x = new TooMany();
        x.flight(0, 1, 100, 1000, 1, miles);
        x.party(0, 3, 1, 5, false);
        x.leave(0);
        if (late > 0) {
            x.flight(0, 1, 100, 1000 + late, 9, 1);
            x.move();
        }
        return x;
    }

    private static void promise7Claims() {
        int[][] bases = {{1, 250}, {1500, 250}, {1501, 400}, {3500, 400}, {3501, 600}, {9999, 600}};
        for (int[] b : bases) {
            due("claim for miles " + b[0], leftBehind(b[0], 0).of(0, 7), 3 * b[1]);
        }
        int[][] lates = {{1, 0}, {119, 0}, {120, 200}, {239, 200}, {240, 400}, {5000, 400}};
        for (int[] l : lates) {
            TooMany x = leftBehind(2000, l[0]);
            due("late", x.of(0, 6), l[0]);
            due("claim for late " + l[0], x.of(0, 7), 3 * l[1]);
            due("coin of one left", x.of(0, 3), 0);
        }
        TooMany x = leftBehind(2000, 150);
        x.set(2, 501);
        due("half is cut ahead of size", x.of(0, 7), 750);
        x.set(1, 9);
        x.set(3, 9);
        due("other fees are not asked", x.of(0, 7), 750);
        TooMany gave = new TooMany();
        gave.flight(0, 1, 100, 200, 1, 2000);
        gave.flight(0, 1, 100, 9000, 9, 2000);
        gave.party(0, 2, 1, 5, false);
        gave.buy(0);
        due("claim of one that gave", gave.of(0, 7), 10);
        gave.move();
        due("claim of one that gave, by a way", gave.of(0, 7), 10);
        TooMany early = new TooMany();
        early.flight(0, 1, 100, 1000, 1, 2000);
        early.flight(0, 1, 150, 900, 9, 2000);
        early.party(0, 2, 1, NONE, false);
        early.leave(0);
        early.move();
        due("LATE is 0 at least", early.of(0, 6), 0);
    }

    private static void promise8Count() {
        TooMany x = oneFlight(4);
        x.flight(0, 1, 300, 350, 2, 1000);
        x.party(0, 2, 5, 10, false);
        x.party(0, 1, 5, 20, false);
        x.party(0, 3, 1, NONE, false);
        x.party(0, 1, 9, NONE, false);
        x.party(1, 1, 9, NONE, false);
        due("flights", x.count(0), 2);
        due("parties", x.count(1), 5);
        due("flying", x.count(2), 8);
        x.buy(0);
        due("bought", x.count(3), 3);
        x.party(0, 2, 9, NONE, true);
        due("left", x.leave(0), 3);
        due("gave", x.count(3), 3);
        due("left people", x.count(4), 3);
        due("none has a way", x.count(5), 0);
        due("claims", x.count(6), 40 + 750);
        due("moved", x.move(), 1);
        due("with a way", x.count(5), 1);
        due("flying now", x.count(2), 4);
        x.off(1, true);
        due("flying on those that go", x.count(2), 3);
        due("gave, one that is off", x.count(3), 3);
        due("way by one that is off", x.count(5), 1);
        for (int what : new int[] {-1, 7, LEAST, MOST}) {
            due("count of another what", x.count(what), NONE);
        }
    }

    private static void promise9Cost() {
        TooMany x = oneFlight(4);
        due("none such", x.cost(1), NONE);
        due("-1", x.cost(-1), NONE);
        due("the least", x.cost(LEAST), NONE);
        due("empty", x.cost(0), 0);
        x.party(0, 4, 0, 999, false);
        due("OVER is 0", x.cost(0), 0);
        x.party(0, 1, 0, NONE, false);
        x.party(0, 1, 0, 1, true);
        due("whole families", x.cost(0), 4 * 999);
        x.party(0, 1, 0, 400, false);
        x.party(0, 2, 0, 300, false);
        due("LOAD", x.told(0, 0), 9);
        due("the least of sets", x.cost(0), 4 * 999 + 400);
        x.off(0, true);
        due("not enough for all", x.cost(0), -2);
        due("nothing changes", x.count(2) + x.count(3), 0);
        x.off(0, false);
        due("flying", x.count(2), 9);
        TooMany full = oneFlight(40);
        for (int p = 0; p < 20; p++) {
            full.party(0, 6, 0, 999, false);
        }
        due("20 parties of 6", full.cost(0), 84 * 999);
        full.off(0, true);
        due("all 20", full.cost(0), 120 * 999);
        full.party(0, 1, 0, 0, false);
        due("a 21st is not there", full.cost(0), 120 * 999);
    }

    private static void promise9CostTies() {
        TooMany both = oneFlight(1);
        both.party(0, 3, 0, 10, false);
        both.party(0, 2, 0, 15, false);
        both.party(0, 1, 0, 30, true);
        due("over 5 needs both", both.buy(0), 60);
        TooMany x = oneFlight(4);
        x.party(0, 3, 0, 10, false);
        x.party(0, 2, 0, 15, false);
        x.party(0, 1, 0, NONE, false);
        due("equal coin", x.buy(0), 30);
        dueText("the least sum of sizes", states(x), "010");
        TooMany bits = oneFlight(4);
        bits.party(0, 2, 0, 9, false);
        bits.party(0, 1, 0, 9, false);
        bits.party(0, 1, 0, 9, false);
        bits.party(0, 2, 0, 9, false);
        due("equal coin and sizes", bits.buy(0), 18);
        dueText("the least number as bits", states(bits), "1000");
        TooMany lower = oneFlight(4);
        lower.party(0, 1, 0, 9, false);
        lower.party(0, 1, 0, 9, false);
        lower.party(0, 2, 0, 9, false);
        lower.party(0, 2, 0, 9, false);
        due("equal, two or one", lower.buy(0), 18);
        dueText("bits 0 and 1 are below bit 2", states(lower), "1100");
        TooMany free = oneFlight(1);
        free.party(0, 1, 0, 0, false);
        due("nothing to buy", free.buy(0), 0);
        dueText("one for no coin flies on", states(free), "0");
        free.party(0, 1, 0, 0, false);
        due("for no coin", free.buy(0), 0);
        dueText("one alone gives", states(free), "10");
    }

    private static void promise10Buy() {
        TooMany x = oneFlight(3);
        x.flight(0, 1, 300, 400, 9, 1000);
        x.party(1, 6, 0, 0, false);
        x.party(0, 2, 0, 50, false);
        x.party(0, 1, 0, 10, true);
        x.party(0, 1, 0, 60, false);
        x.party(0, 1, 0, 70, false);
        due("none such", x.buy(2), NONE);
        due("-1", x.buy(-1), NONE);
        due("OVER 0", x.buy(1), 0);
        due("over", x.told(0, 1), 2);
        due("buy", x.buy(0), 100);
        dueText("who gave", states(x), "01000");
        due("coin is its bid", x.of(1, 3), 50);
        due("claim", x.of(1, 7), 100);
        due("no over", x.told(0, 1), 0);
        due("buy again", x.buy(0), 0);
        dueText("who gave, the same", states(x), "01000");
        x.off(0, true);
        String ahead = whole(x);
        due("MUST cannot be bought", x.buy(0), -2);
        dueText("nothing changes", whole(x), ahead);
        TooMany y = oneFlight(1);
        y.party(0, 1, 0, NONE, false);
        y.party(0, 1, 0, NONE, false);
        due("no bids", y.buy(0), -2);
        y.party(0, 1, 0, 999, false);
        due("one bid is not enough", y.buy(0), -2);
        y.party(0, 1, 0, 1, false);
        due("over 3, two bids", y.buy(0), -2);
    }

    private static void promise11Rounds() {
        TooMany x = oneFlight(3);
        x.party(0, 1, 0, 30, false);
        x.party(0, 2, 0, 10, false);
        x.party(0, 1, 0, 30, false);
        x.party(0, 1, 0, 5, true);
        x.party(0, 1, 0, NONE, false);
        String ahead = whole(x);
        int[][] wrongs = {{1, 0, 1}, {-1, 0, 1}, {0, -1, 1}, {0, 1000, 1}, {0, 0, 0}, {0, 0, -1}, {0, 0, 1000}, {0, LEAST, MOST}};
        for (int[] w : wrongs) {
            due("rounds, wrong", x.rounds(w[0], w[1], w[2]), NONE);
        }
        dueText("nothing changes", whole(x), ahead);
        due("over", x.told(0, 1), 3);
        due("rounds", x.rounds(0, 4, 7), 32);
        dueText("by bid, then by number", states(x), "11000");
        due("all give for the offer", x.of(1, 3), 32);
        due("all give for the offer, 0", x.of(0, 3), 32);
        due("claim", x.of(1, 7), 64);
        due("v if OVER is 0", x.rounds(0, 77, 1), 77);
        dueText("nobody more", states(x), "11000");
        due("v is looked at though OVER is 0", x.rounds(0, 1000, 1), NONE);
    }

    private static void promise11RoundsEdges() {
        TooMany at = oneFlight(1);
        at.party(0, 1, 0, 40, false);
        at.party(0, 1, 0, 50, false);
        due("a bid that is the offer", at.rounds(0, 40, 999), 40);
        dueText("it gave", states(at), "10");
        TooMany more = oneFlight(1);
        more.party(0, 6, 0, 20, false);
        more.party(0, 1, 0, 10, false);
        due("over 6", more.told(0, 1), 6);
        due("the cheap one too", more.rounds(0, 20, 1), 20);
        dueText("both", states(more), "11");
        TooMany most = oneFlight(1);
        most.party(0, 1, 0, 999, false);
        most.party(0, 1, 0, 999, false);
        String ahead = whole(most);
        due("0, 2, .. 998 is below 999", most.rounds(0, 0, 2), -2);
        dueText("nothing changes", whole(most), ahead);
        due("1, 3, .. 999", most.rounds(0, 1, 2), 999);
        dueText("the first one", states(most), "10");
        TooMany one = oneFlight(1);
        one.party(0, 1, 0, 999, false);
        one.party(0, 1, 0, 999, false);
        due("0, 999", one.rounds(0, 0, 999), 999);
        TooMany few = oneFlight(1);
        few.party(0, 1, 0, 1, false);
        few.party(0, 1, 0, 1, true);
        few.party(0, 1, 0, NONE, false);
        due("not enough come forward", few.rounds(0, 0, 1), -2);
        dueText("nobody gave", states(few), "000");
        few.off(0, true);
        due("one that is off", few.rounds(0, 999, 1), -2);
        TooMany gone = oneFlight(40);
        gone.party(0, 3, 0, 1, false);
        gone.party(0, 2, 0, 8, false);
        gone.off(0, true);
        due("one that is off, all", gone.rounds(0, 0, 3), 9);
        dueText("all gave", states(gone), "11");
    }

    private static void promise12Leave() {
        TooMany x = oneFlight(3);
        x.flight(0, 1, 300, 400, 1, 1000);
        x.party(0, 1, 2, 10, false);
        x.party(0, 2, 1, 10, false);
        x.party(0, 1, 1, NONE, false);
        x.party(0, 1, 0, NONE, true);
        x.party(1, 1, 0, NONE, false);
        due("none such", x.leave(2), NONE);
        due("-1", x.leave(-1), NONE);
        due("OVER 0", x.leave(1), 0);
        due("over", x.told(0, 1), 2);
        due("leave", x.leave(0), 3);
        dueText("least rank, greatest number, whole", states(x), "02200");
        due("leave again", x.leave(0), 0);
        due("no coin", x.of(1, 3), 0);
        x.party(0, 6, 9, NONE, true);
        String ahead = whole(x);
        due("over", x.told(0, 1), 5);
        due("not all of OVER can be", x.leave(0), -2);
        dueText("nothing changes", whole(x), ahead);
        TooMany y = oneFlight(2);
        y.party(0, 1, 5, 10, false);
        y.party(0, 1, 5, 10, false);
        y.party(0, 1, 5, 10, false);
        due("equal rank", y.leave(0), 1);
        dueText("the greatest number", states(y), "002");
        y.off(0, true);
        due("off: all", y.leave(0), 2);
        dueText("all", states(y), "222");
        TooMany by = oneFlight(1);
        by.flight(0, 1, 300, 400, 2, 1000);
        by.party(0, 2, 0, NONE, false);
        by.leave(0);
        by.move();
        by.party(1, 1, 0, NONE, false);
        due("over by a way", by.told(1, 1), 1);
        due("leave for a way", by.leave(1), 1);
        by.off(1, true);
        due("those by a way cannot be left", by.leave(1), -2);
    }

    private static void promise13Back() {
        TooMany x = oneFlight(3);
        x.flight(0, 1, 300, 400, 9, 1000);
        x.party(0, 2, 5, 10, false);
        x.party(0, 2, 1, NONE, false);
        due("it flies", x.back(0), false);
        due("none such", x.back(2), false);
        due("-1", x.back(-1), false);
        due("the most", x.back(MOST), false);
        x.buy(0);
        x.move();
        due("way", x.of(0, 4), 1);
        String ahead = whole(x);
        due("OVER would be 1", x.back(0), false);
        dueText("nothing changes", whole(x), ahead);
        x.off(0, true);
        x.leave(0);
        due("one that is off", x.back(0), false);
        x.off(0, false);
        due("back", x.back(0), true);
        int[] flying = {0, 0, 2, 0, NONE, NONE, NONE, 0};
        for (int what = 0; what < 8; what++) {
            due("of one that is back, " + what, x.of(0, what), flying[what]);
        }
        due("LOAD of its way", x.told(1, 0), 0);
        due("LOAD of its flight", x.told(0, 0), 2);
        due("the other would be too many", x.back(1), false);
        x.party(0, 1, 1, 1, false);
        x.party(0, 1, 1, 1, false);
        x.buy(0);
        due("to the last seat", x.told(0, 0), 3);
        TooMany y = oneFlight(2);
        y.party(0, 2, 1, NONE, false);
        y.off(0, true);
        y.leave(0);
        y.off(0, false);
        due("all seats", y.back(0), true);
        due("of one that was left", y.of(0, 0), 0);
        due("again", y.back(0), false);
    }

    private static void promise14Late() {
        TooMany x = new TooMany();
        x.flight(0, 1, 100, 500, 4, 1000);
        x.flight(0, 1, 100, 600, 1, 1000);
        x.flight(0, 1, 99, 600, 4, 1000);
        x.flight(0, 1, 200, 400, 4, 1000);
        x.flight(0, 2, 100, 455, 4, 1000);
        x.flight(2, 1, 500, 700, 4, 1000);
        x.flight(2, 1, 499, 800, 4, 1000);
        x.flight(1, 2, 700, 800, 4, 1000);
        x.party(0, 6, 0, 0, false);
        due("one, also too small, of one that flies", x.late(0, 1, NONE), 100);
        due("departs ahead", x.late(0, 2, NONE), NONE);
        due("0 at least", x.late(0, 3, NONE), 0);
        due("its own", x.late(0, 0, NONE), NONE);
        due("another city", x.late(0, 4, NONE), NONE);
        due("from another city", x.late(0, 5, NONE), NONE);
        due("two", x.late(0, 4, 5), 200);
        due("change is 44", x.late(0, 4, 6), NONE);
        due("two that do not meet", x.late(0, 1, 5), NONE);
        due("two to another city", x.late(0, 1, 7), NONE);
        due("the second alone", x.late(0, 5, NONE), NONE);
        due("in the wrong order", x.late(0, 5, 4), NONE);
        due("twice the same", x.late(0, 1, 1), NONE);
        int[][] wrongs = {{1, 1, NONE}, {-1, 1, NONE}, {0, 8, NONE}, {0, -1, NONE}, {0, NONE, 1}, {0, 4, 8}, {0, 1, -2}, {0, 1, 8},
            {LEAST, 1, NONE}, {0, MOST, NONE}, {0, 1, LEAST}, {0, 4, MOST}};
        for (int[] w : wrongs) {
            due("late, wrong", x.late(w[0], w[1], w[2]), NONE);
        }
        x.set(0, 44);
        due("change is enough", x.late(0, 4, 6), 300);
        x.set(0, 46);
        due("change is too much", x.late(0, 4, 5), NONE);
        x.set(0, 0);
        x.off(4, true);
        due("the first is off", x.late(0, 4, 5), NONE);
        x.off(4, false);
        x.off(5, true);
        due("the second is off", x.late(0, 4, 5), NONE);
        x.off(1, true);
        due("the one is off", x.late(0, 1, NONE), NONE);
        x.off(0, true);
        due("its own is off", x.late(0, 3, NONE), 0);
        x.leave(0);
        due("of one that was left", x.late(0, 4, 6), 300);
        TooMany ahead = new TooMany();
        ahead.flight(0, 1, 100, 500, 4, 1000);
        ahead.flight(0, 2, 99, 200, 4, 1000);
        ahead.flight(2, 1, 300, 600, 4, 1000);
        ahead.party(0, 1, 0, 0, false);
        due("the first departs ahead", ahead.late(0, 1, 2), NONE);
    }

    private static void promise15Stranded() {
        TooMany x = oneFlight(1);
        x.party(0, 6, 1, 5, false);
        x.party(0, 2, 0, NONE, false);
        x.party(0, 1, 9, NONE, true);
        due("all fly", x.stranded(), 0);
        x.leave(0);
        due("parties, not people", x.stranded(), 2);
        x.flight(0, 1, 300, 400, 3, 1000);
        x.move();
        due("one has a way", x.stranded(), 1);
        x.off(1, true);
        due("a way by one that is off is a way", x.stranded(), 1);
        x.undo();
        due("ways gone", x.stranded(), 2);
        TooMany y = oneFlight(1);
        y.party(0, 1, 1, 5, false);
        y.party(0, 1, 1, 6, false);
        y.buy(0);
        due("one that gave", y.stranded(), 1);
    }

    private static void promise16Move() {
        TooMany x = allLeft(2, 3, 4);
        due("no flight", x.move(), 0);
        x.flight(0, 1, 300, 400, 5, 1000);
        due("the most people", x.move(), 5);
        dueText("2 and 3, not 4", ways(x), "1- 1- --");
        due("no more seats", x.move(), 0);
        x.flight(0, 1, 100, 9999, 4, 1000);
        due("those that had none", x.move(), 4);
        dueText("the rest", ways(x), "1- 1- 2-");
        due("all have one", x.stranded(), 0);

        TooMany most = allLeft(3, 2, 2);
        most.flight(0, 1, 300, 400, 4, 1000);
        due("4 and not 3", most.move(), 4);
        dueText("4 and not 3", ways(most), "-- 1- 1-");

        TooMany late = allLeft(1, 3);
        late.flight(0, 1, 300, 500, 6, 1000);
        late.flight(0, 1, 300, 400, 3, 1000);
        due("both", late.move(), 4);
        dueText("late times size", ways(late), "1- 2-");

        TooMany people = allLeft(1);
        people.flight(0, 1, 100, 9999, 1, 1000);
        due("most go, however late", people.move(), 1);
        due("late", people.of(0, 6), 9799);

        TooMany own = oneFlight(9);
        own.party(0, 2, 0, NONE, false);
        own.off(0, true);
        own.leave(0);
        own.off(0, false);
        due("not by its own flight", own.move(), 0);
    }

    private static void promise16MoveOrder() {
        TooMany less = allLeft(1, 1);
        less.flight(0, 1, 300, 400, 1, 1000);
        less.flight(0, 1, 300, 400, 1, 1000);
        less.move();
        dueText("the less first flight for the first party", ways(less), "1- 2-");

        TooMany alone = allLeft(2);
        alone.flight(0, 2, 100, 150, 9, 1000);
        alone.flight(2, 1, 300, 400, 9, 1000);
        alone.flight(0, 1, 300, 400, 9, 1000);
        alone.flight(2, 1, 300, 400, 9, 1000);
        alone.move();
        dueText("the less first flight, then the less second", ways(alone), "12");

        TooMany ahead = allLeft(2);
        ahead.flight(2, 1, 300, 400, 9, 1000);
        ahead.flight(0, 1, 300, 400, 9, 1000);
        ahead.flight(0, 2, 100, 150, 9, 1000);
        ahead.move();
        dueText("one alone, its number is less", ways(ahead), "2-");

        TooMany behind = allLeft(1, 1);
        behind.flight(0, 1, 300, 400, 1, 1000);
        behind.move();
        dueText("none is behind all", ways(behind), "1- --");

        TooMany second = allLeft(1, 1);
        second.flight(0, 2, 100, 150, 9, 1000);
        second.flight(2, 1, 300, 400, 1, 1000);
        second.flight(2, 1, 300, 400, 1, 1000);
        second.move();
        dueText("the less second flight for the first", ways(second), "12 13");

        TooMany fast = allLeft(1, 1);
        fast.flight(0, 1, 300, 401, 9, 1000);
        fast.flight(0, 1, 300, 400, 1, 1000);
        fast.move();
        dueText("the least late, whoever it is: the first party by the less flight", ways(fast), "1- 2-");

        TooMany sizes = allLeft(1, 2, 1);
        sizes.flight(0, 1, 300, 400, 2, 1000);
        sizes.move();
        dueText("the first party has one, so the third", ways(sizes), "1- -- 1-");
    }

    private static void promise16MoveLoads() {
        TooMany x = oneFlight(2);
        x.flight(0, 1, 300, 400, 3, 1000);
        x.flight(0, 1, 300, 500, 3, 1000);
        x.party(1, 5, 0, NONE, false);
        x.party(2, 1, 0, NONE, false);
        x.party(0, 2, 0, NONE, false);
        x.party(0, 1, 0, NONE, false);
        x.leave(0);
        due("over ahead", x.told(1, 1), 2);
        due("one left", x.stranded(), 1);
        due("moved", x.move(), 1);
        dueText("not on one that is over", ways(x), "-- -- -- 2-");
        due("load is as it was", x.told(1, 0), 5);

        TooMany chain = allLeft(3);
        chain.flight(0, 2, 100, 150, 2, 1000);
        chain.flight(2, 1, 300, 400, 9, 1000);
        due("the first is too small", chain.move(), 0);
        chain.flight(0, 2, 100, 150, 3, 1000);
        due("the first is enough", chain.move(), 3);
        TooMany small = allLeft(3);
        small.flight(0, 2, 100, 150, 9, 1000);
        small.flight(2, 1, 300, 400, 2, 1000);
        due("the second is too small", small.move(), 0);

        TooMany shared = oneFlight(1);
        shared.flight(3, 1, 100, 200, 1, 1000);
        shared.flight(0, 2, 100, 150, 9, 1000);
        shared.flight(3, 2, 100, 150, 9, 1000);
        shared.flight(2, 1, 300, 400, 3, 1000);
        shared.party(0, 2, 0, NONE, false);
        shared.party(1, 3, 0, NONE, false);
        shared.leave(0);
        shared.leave(1);
        due("two flights share a second one", shared.move(), 3);
        dueText("the larger party", ways(shared), "-- 34");

        TooMany off = allLeft(1);
        off.flight(0, 1, 300, 400, 9, 1000);
        off.off(1, true);
        due("by one that is off", off.move(), 0);
        off.off(1, false);
        due("it goes", off.move(), 1);
    }

    private static void promise16MoveLimit() {
        TooMany x = allLeft(1, 1, 1, 1, 1, 1, 1);
        x.flight(0, 1, 300, 400, 40, 1000);
        String ahead = whole(x);
        due("seven", x.move(), NONE);
        dueText("nothing changes", whole(x), ahead);
        x.off(0, false);
        due("one is back", x.back(3), true);
        due("six", x.move(), 6);
        dueText("all by 1", ways(x), "1- 1- 1- -- 1- 1- 1-");
        x.off(0, true);
        x.leave(0);
        due("those with a way do not count", x.move(), 1);

        TooMany tight = allLeft(6, 6, 4, 3, 2, 1);
        int[] seats = {11, 11, 13};
        for (int s : seats) {
            tight.flight(0, 2, 100, 150, s, 1000);
        }
        tight.flight(2, 1, 300, 400, 11, 1000);
        tight.flight(2, 1, 300, 500, 11, 1000);
        tight.flight(2, 1, 300, 501, 11, 1000);
        tight.flight(2, 1, 300, 502, 11, 1000);
        due("tight: all 22", tight.move(), 22);
        due("tight: all by the first two", tight.told(4, 0) + tight.told(5, 0), 22);
    }

    private static void promise16MoveWeights() {
        // Two parties of 6 would each be 9988 late, three of 11 people together hardly at all.
        TooMany x = new TooMany();
        x.flight(2, 1, 5000, 9999, 12, 1000);
        x.flight(0, 1, 10, 11, 1, 1000);
        x.flight(3, 1, 10, 9990, 1, 1000);
        x.flight(0, 2, 10, 4000, 40, 1000);
        x.flight(3, 2, 10, 4000, 40, 1000);
        for (int size : new int[] {4, 4, 3}) {
            x.party(2, size, 0, NONE, false);
        }
        x.party(1, 6, 0, NONE, false);
        x.party(1, 6, 0, NONE, false);
        x.off(1, true);
        x.off(2, true);
        x.leave(1);
        x.leave(2);
        due("one more person outweighs all lateness", x.move(), 12);
        dueText("the two, by a second flight that is number 0", ways(x), "-- -- -- 30 30");

        TooMany many = new TooMany();
        for (int first = 0; first < 3; first++) {
            many.flight(0, 2, 100, 150, 3, 1000);
        }
        for (int second = 0; second < 4; second++) {
            many.flight(2, 1, 300, 400 - second, 2, 1000);
        }
        many.flight(0, 1, 100, 200, 1, 1000);
        many.party(7, 2, 0, NONE, false);
        many.leave(7);
        due("twelve ways", many.move(), 2);
        dueText("the least late", ways(many), "06");
        many.party(0, 3, 0, NONE, false);
        many.party(1, 2, 0, NONE, false);
        many.party(7, 2, 0, NONE, false);
        many.leave(7);
        due("the next one", many.move(), 2);
        due("by the first flight that has room", many.of(3, 4), 2);
        due("by the second flight that is left", many.of(3, 5), 5);
    }

    private static void promise17Undo() {
        TooMany x = allLeft(1, 1, 2, 3);
        x.flight(0, 1, 300, 400, 2, 1000);
        x.flight(0, 2, 300, 450, 9, 1000);
        x.flight(2, 1, 500, 600, 9, 1000);
        due("moved", x.move(), 7);
        dueText("ways", ways(x), "1- 1- 23 23");
        due("its own flight being off is no matter", x.undo(), 0);
        x.off(1, true);
        due("two parties", x.undo(), 2);
        dueText("gone", ways(x), "-- -- 23 23");
        due("LATE is gone", x.of(0, 6), NONE);
        due("they stay left", x.of(0, 0), 2);
        due("again", x.undo(), 0);
        x.off(3, true);
        due("a second flight", x.undo(), 2);
        dueText("all gone", ways(x), "-- -- -- --");
        due("load of the first flight", x.told(2, 0), 0);
        x.off(3, false);
        due("moved again", x.move(), 7);
        x.off(2, true);
        x.off(3, true);
        due("first and second: counted once", x.undo(), 4);
        TooMany gave = oneFlight(1);
        gave.flight(0, 1, 300, 400, 2, 1000);
        gave.party(0, 2, 0, 9, false);
        gave.buy(0);
        gave.move();
        gave.off(1, true);
        due("one that gave", gave.undo(), 1);
        due("it keeps its coin", gave.of(0, 3), 9);
    }
}
