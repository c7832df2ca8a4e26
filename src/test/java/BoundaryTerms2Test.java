/** The boundary cases of Terms 2, a function for each sentence: BOUGHT, ROUNDS and LEFT. */
public final class BoundaryTerms2Test extends Checks {

    public static void main(String[] args) {
        boughtAreOnTheFlight();
        boughtFly();
        boughtHaveABid();
        boughtAreNotMust();
        boughtSizesAreOverOrMore();
        boughtOfOneThatIsOff();
        boughtForTheLeastSum();
        boughtOfEqualSumsTheLeastSizes();
        boughtOfEqualSizesTheLeastBits();
        boughtForTheirBid();
        offerBeginsAtV();
        offerRisesByS();
        offerIs999AtMost();
        bidIsNotAboveTheOffer();
        asSoonAsSizesAreOver();
        takenByBidThenByNumber();
        takenUntilOverIsZero();
        eachGaveForThisOffer();
        onlyThoseOfThemComeForward();
        leftFlyOnTheFlight();
        leftButMust();
        leftOfLeastRank();
        leftOfEqualRankTheGreatestNumber();
        leftUntilOverIsZero();
        end();
    }

    /** One flight with so many seats and parties of size, bid on it. */
    private static TooMany bidders(int seats, int[]... sizesAndBids) {
        TooMany x = oneFlight(seats);
        for (int[] p : sizesAndBids) {
            x.party(0, p[0], 0, p[1], false);
        }
        return x;
    }

    private static int[] of(int size, int bid) {
        return new int[] {size, bid};
    }

    private static void dueBought(String call, TooMany x, int cost, String states) {
        due(call + ", cost", x.cost(0), cost);
        due(call + ", buy", x.buy(0), cost);
        dueText(call + ", states", states(x), states);
    }

    private static void dueRounds(String call, TooMany x, int[] vAndS, int offer, String states) {
        due(call, x.rounds(0, vAndS[0], vAndS[1]), offer);
        dueText(call + ", states", states(x), states);
    }

    private static int[] by(int v, int s) {
        return new int[] {v, s};
    }

    private static void boughtAreOnTheFlight() {
        about("Terms 2: BOUGHT: of PARTIES on a FLIGHT");
        TooMany x = bidders(1, of(1, 50), of(1, 60));
        x.flight(0, 1, 100, 200, 1, 1000);
        x.party(1, 1, 0, 0, false);
        dueBought("the cheaper one is on another flight", x, 50, "100");
        TooMany y = allLeft(1);
        y.flight(0, 1, 100, 300, 1, 1000);
        y.move();
        y.party(1, 1, 0, 70, false);
        due("one whose way has it is not on it", y.buy(1), 70);
        dueText("states", states(y), "21");
    }

    private static void boughtFly() {
        about("Terms 2: BOUGHT: PARTIES that FLY");
        TooMany x = bidders(2, of(1, 1), of(1, 5), of(1, 9));
        dueBought("first", x, 1, "100");
        x.party(0, 1, 0, NONE, false);
        dueBought("who gave gives no more", x, 5, "1100");
        TooMany y = bidders(1, of(1, 1), of(1, 5));
        y.leave(0);
        dueText("the later one is left", states(y), "02");
        y.off(0, true);
        dueBought("who was left does not give", y, 1, "12");
    }

    private static void boughtHaveABid() {
        about("Terms 2: BOUGHT: have a BID");
        dueBought("one has none", bidders(1, of(1, NONE), of(1, 999)), 999, "01");
        dueBought("a bid of 0 is a bid", bidders(1, of(1, NONE), of(1, 0)), 0, "01");
        dueBought("none has any", bidders(1, of(1, NONE), of(1, NONE)), NOT_ENOUGH, "00");
        dueBought("the one bid is too small", bidders(1, of(1, 0), of(2, NONE)), NOT_ENOUGH, "00");
    }

    private static void boughtAreNotMust() {
        about("Terms 2: BOUGHT: and not MUST");
        TooMany x = oneFlight(1);
        x.party(0, 1, 0, 0, true);
        x.party(0, 1, 0, 999, false);
        dueBought("the cheaper one must", x, 999, "01");
        TooMany y = oneFlight(1);
        y.party(0, 1, 0, 0, true);
        y.party(0, 1, 0, 0, true);
        dueBought("all must", y, NOT_ENOUGH, "00");
    }

    private static void boughtSizesAreOverOrMore() {
        about("Terms 2: BOUGHT: those whose SIZES together are OVER or more");
        dueBought("just over", bidders(3, of(2, 5), of(1, NONE), of(2, NONE)), 10, "100");
        dueBought("one short", bidders(2, of(2, 5), of(1, NONE), of(2, NONE)), NOT_ENOUGH, "000");
        dueBought("more than over", bidders(4, of(6, 5)), 30, "1");
        dueBought("two that are just over", bidders(2, of(1, 5), of(1, 7), of(2, NONE)), 12, "110");
        dueBought("full: nobody", bidders(3, of(3, 0)), 0, "0");
        dueBought("empty: nobody", bidders(1), 0, "");
        dueBought("one beyond the seats", bidders(3, of(3, 0), of(1, 9)), 0, "10");
    }

    private static void boughtOfOneThatIsOff() {
        about("Terms 2: BOUGHT, OVER being LOAD whole");
        TooMany x = bidders(40, of(2, 5), of(1, 7));
        x.off(0, true);
        dueBought("all", x, 17, "11");
        dueBought("none is on it any more", x, 0, "11");
        TooMany most = oneFlight(1);
        for (int p = 0; p < 20; p++) {
            most.party(0, 6, 0, 999, false);
        }
        most.off(0, true);
        dueBought("the most that can be", most, 119880, "11111111111111111111");
        TooMany way = allLeft(1);
        way.flight(0, 1, 100, 300, 9, 1000);
        way.move();
        way.party(1, 1, 0, 0, false);
        way.off(1, true);
        due("one by a way cannot be bought", way.buy(1), NOT_ENOUGH);
        dueText("states", states(way), "20");
    }

    private static void boughtForTheLeastSum() {
        about("Terms 2: BOUGHT: with the least sum of BID times SIZE");
        dueBought("a family of a low bid costs more", bidders(7, of(6, 10), of(2, 29)), 58, "01");
        dueBought("a family of a low bid costs less", bidders(7, of(6, 9), of(2, 29)), 54, "10");
        dueBought("two small ones cost less", bidders(2, of(2, 10), of(1, 9), of(1, 10)), 19, "011");
        dueBought("two small ones cost more", bidders(2, of(2, 10), of(1, 10), of(1, 11)), 20, "100");
        dueBought("a larger one for less", bidders(4, of(1, 13), of(4, 3)), 12, "01");
        dueBought("all three for one coin less", bidders(3, of(1, 3), of(1, 3), of(1, 3), of(3, 4)), 9, "1110");
    }

    private static void boughtOfEqualSumsTheLeastSizes() {
        about("Terms 2: BOUGHT: of equal ones the least sum of SIZES");
        dueBought("the later one is smaller", bidders(4, of(3, 10), of(2, 15)), 30, "01");
        dueBought("both are over 1", bidders(8, of(6, 5), of(3, 10)), 30, "01");
        dueBought("none is added for no coin", bidders(3, of(1, 0), of(1, 0), of(2, 0)), 0, "100");
        dueBought("two of 1 and not one of 3", bidders(4, of(3, 4), of(1, 6), of(1, 6), of(1, NONE)), 12, "0110");
    }

    private static void boughtOfEqualSizesTheLeastBits() {
        about("Terms 2: BOUGHT: then the least number as bits (PARTY p being bit p)");
        dueBought("the first of two", bidders(1, of(1, 8), of(1, 8)), 8, "10");
        dueBought("bits 0 and 1 are below bit 2", bidders(2, of(1, 8), of(1, 8), of(2, 8)), 16, "110");
        dueBought("bit 0 is below bits 1 and 2", bidders(2, of(2, 8), of(1, 8), of(1, 8)), 16, "100");
        dueBought("bit 1 is below bits 0 and 2", bidders(2, of(1, 8), of(2, 8), of(1, 8)), 16, "010");
        TooMany x = oneFlight(38);
        for (int p = 0; p < 20; p++) {
            x.party(0, 2, 0, 999, false);
        }
        dueBought("the first of 20", x, 1998, "10000000000000000000");
        TooMany last = oneFlight(19);
        for (int p = 0; p < 20; p++) {
            last.party(0, 1, 0, p == 19 ? 998 : 999, false);
        }
        dueBought("the 20th costs less", last, 998, "00000000000000000001");
    }

    private static void boughtForTheirBid() {
        about("Terms 2: BOUGHT: Each GAVE, for its BID");
        TooMany x = bidders(1, of(1, 0), of(2, 999), of(1, 40));
        x.off(0, true);
        due("all three", x.buy(0), 2038);
        dueText("for nothing", party(x, 0), "1 0 1 0 -1 -1 -1 0");
        dueText("for 999", party(x, 1), "1 0 2 999 -1 -1 -1 1998");
        dueText("for 40", party(x, 2), "1 0 1 40 -1 -1 -1 40");
    }

    private static void offerBeginsAtV() {
        about("Terms 2: ROUNDS: an OFFER begins at v");
        dueRounds("the bid is v", bidders(1, of(1, 50), of(1, NONE)), by(50, 7), 50, "10");
        dueRounds("the bid is below v", bidders(1, of(1, 49), of(1, NONE)), by(50, 7), 50, "10");
        dueRounds("v 0, bid 0", bidders(1, of(1, 0), of(1, NONE)), by(0, 999), 0, "10");
        dueRounds("v 999, bid 0", bidders(1, of(1, 0), of(1, NONE)), by(999, 999), 999, "10");
        dueRounds("v 999, bid 999", bidders(1, of(1, 999), of(1, NONE)), by(999, 1), 999, "10");
    }

    private static void offerRisesByS() {
        about("Terms 2: ROUNDS: and rises by s each time");
        dueRounds("one above v", bidders(1, of(1, 51), of(1, NONE)), by(50, 7), 57, "10");
        dueRounds("one step", bidders(1, of(1, 57), of(1, NONE)), by(50, 7), 57, "10");
        dueRounds("above one step", bidders(1, of(1, 58), of(1, NONE)), by(50, 7), 64, "10");
        dueRounds("by 1", bidders(1, of(1, 998), of(1, NONE)), by(0, 1), 998, "10");
        dueRounds("by 998", bidders(1, of(1, 2), of(1, NONE)), by(1, 998), 999, "10");
    }

    private static void offerIs999AtMost() {
        about("Terms 2: ROUNDS: to 999 at most");
        dueRounds("by 1 to 999", bidders(1, of(1, 999), of(1, NONE)), by(0, 1), 999, "10");
        dueRounds("by 999 to 999", bidders(1, of(1, 1), of(1, NONE)), by(0, 999), 999, "10");
        dueRounds("999 is passed over", bidders(1, of(1, 999), of(1, NONE)), by(0, 2), NOT_ENOUGH, "00");
        dueRounds("998 is enough", bidders(1, of(1, 998), of(1, NONE)), by(0, 2), 998, "10");
        dueRounds("the second offer would be 1000", bidders(1, of(1, 2), of(1, NONE)), by(1, 999), NOT_ENOUGH, "00");
        dueRounds("behind 999 comes none", bidders(1, of(1, NONE), of(1, NONE)), by(999, 999), NOT_ENOUGH, "00");
    }

    private static void bidIsNotAboveTheOffer() {
        about("Terms 2: ROUNDS: those whose BID is not above the OFFER come forward");
        dueRounds("a bid of the offer does", bidders(1, of(1, 20), of(1, 21)), by(20, 1), 20, "10");
        dueRounds("a bid one above does not", bidders(1, of(1, 21), of(1, 22)), by(20, 1), 21, "10");
        dueRounds("two at the offer", bidders(2, of(2, 20), of(2, 20)), by(10, 10), 20, "10");
    }

    private static void asSoonAsSizesAreOver() {
        about("Terms 2: ROUNDS: as soon as their SIZES together are OVER or more");
        dueRounds("just over", bidders(3, of(2, 10), of(1, 90), of(2, 80)), by(0, 10), 10, "100");
        dueRounds("one short at first", bidders(3, of(1, 10), of(1, 20), of(3, 80)), by(0, 10), 20, "110");
        dueRounds("a family of just over", bidders(1, of(1, 90), of(6, 5)), by(0, 1), 5, "01");
        dueRounds("a family of more than over", bidders(4, of(1, 90), of(4, 5)), by(0, 1), 5, "01");
        dueRounds("all are just over", bidders(1, of(1, 0), of(1, 1), of(1, NONE)), by(0, 1), 1, "110");
        dueRounds("all are one short", bidders(1, of(1, 0), of(1, 1), of(2, NONE)), by(0, 1), NOT_ENOUGH, "000");
    }

    private static void takenByBidThenByNumber() {
        about("Terms 2: ROUNDS: they are taken by BID, then by number");
        dueRounds("the less bid", bidders(1, of(1, 30), of(1, 20)), by(40, 1), 40, "01");
        dueRounds("a bid of 0 first", bidders(1, of(1, 1), of(1, 0)), by(40, 1), 40, "01");
        dueRounds("equal bids: the less number", bidders(2, of(1, 30), of(1, 30), of(1, 30)), by(40, 1), 40, "100");
        dueRounds("not by size", bidders(5, of(2, 30), of(4, 20), of(1, 30)), by(40, 1), 40, "010");
        dueRounds("equal bids, not by size", bidders(5, of(4, 30), of(2, 30)), by(40, 1), 40, "10");
        dueRounds("by bid though another is enough alone", bidders(4, of(1, 10), of(2, 20), of(3, 30)), by(30, 1), 30, "110");
    }

    private static void takenUntilOverIsZero() {
        about("Terms 2: ROUNDS: until OVER is 0");
        dueRounds("the third is not taken", bidders(2, of(1, 1), of(1, 2), of(1, 3), of(1, 9)), by(9, 1), 9, "1100");
        dueRounds("the last one makes it more", bidders(3, of(1, 1), of(3, 2), of(1, 3)), by(9, 1), 9, "110");
        TooMany x = bidders(40, of(1, 1), of(1, 2));
        x.off(0, true);
        dueRounds("one that is off: all", x, by(0, 5), 5, "11");
        dueRounds("then OVER is 0", x, by(3, 5), 3, "11");
        dueRounds("full: nobody", bidders(2, of(1, 0), of(1, 0)), by(4, 1), 4, "00");
        TooMany most = oneFlight(1);
        for (int p = 0; p < 20; p++) {
            most.party(0, 6, 0, 999 - p, false);
        }
        most.off(0, true);
        dueRounds("all 120", most, by(980, 1), 999, "11111111111111111111");
    }

    private static void eachGaveForThisOffer() {
        about("Terms 2: ROUNDS: each GAVE, for this OFFER");
        TooMany x = bidders(1, of(2, 0), of(1, 15), of(1, NONE));
        due("offer", x.rounds(0, 10, 10), 20);
        dueText("the one of bid 0", party(x, 0), "1 0 2 20 -1 -1 -1 40");
        dueText("the one of bid 15", party(x, 1), "1 0 1 20 -1 -1 -1 20");
        TooMany zero = bidders(1, of(1, 0), of(1, NONE));
        due("offer 0", zero.rounds(0, 0, 1), 0);
        dueText("for nothing", party(zero, 0), "1 0 1 0 -1 -1 -1 0");
    }

    private static void onlyThoseOfThemComeForward() {
        about("Terms 2: ROUNDS: those of them (that FLY, have a BID and not MUST)");
        TooMany x = bidders(1, of(1, NONE), of(1, 500));
        x.party(0, 1, 0, 0, true);
        x.flight(0, 1, 100, 200, 1, 1000);
        x.party(1, 1, 0, 0, false);
        dueRounds("no bid, must and another flight are not enough", x, by(499, 1), NOT_ENOUGH, "0000");
        TooMany y = bidders(2, of(1, NONE), of(1, 500));
        y.party(0, 1, 0, 0, true);
        y.flight(0, 1, 100, 200, 1, 1000);
        y.party(1, 1, 0, 0, false);
        dueRounds("the one with a bid", y, by(499, 1), 500, "0100");
        y.party(0, 1, 0, 600, false);
        dueRounds("who gave comes no more", y, by(500, 1), 600, "01001");
    }

    private static void leftFlyOnTheFlight() {
        about("Terms 2: LEFT: of PARTIES on a FLIGHT that FLY");
        TooMany x = oneFlight(2);
        x.flight(0, 1, 100, 300, 1, 1000);
        x.party(1, 1, 0, NONE, false);
        x.party(0, 1, 9, NONE, false);
        x.party(0, 1, 8, 0, false);
        x.party(0, 1, 7, 0, false);
        due("one of this flight", x.leave(0), 1);
        dueText("states", states(x), "0002");
        x.party(0, 1, 9, NONE, true);
        due("who was left is not left again", x.leave(0), 1);
        dueText("states", states(x), "00220");
        TooMany gave = bidders(1, of(1, 5), of(1, 9), of(1, NONE));
        due("two gave", gave.rounds(0, 9, 1), 9);
        gave.off(0, true);
        due("who gave is not left", gave.leave(0), 1);
        dueText("states", states(gave), "112");
    }

    private static void leftButMust() {
        about("Terms 2: LEFT: but MUST");
        TooMany x = oneFlight(1);
        x.party(0, 1, 0, NONE, true);
        x.party(0, 1, 9, NONE, false);
        due("not the one of the least rank", x.leave(0), 1);
        dueText("states", states(x), "02");
        TooMany y = oneFlight(1);
        y.party(0, 2, 0, 0, true);
        due("only must", y.leave(0), NOT_ENOUGH);
        dueText("states", states(y), "0");
    }

    private static void leftOfLeastRank() {
        about("Terms 2: LEFT: one by one the one of the least RANK");
        TooMany x = oneFlight(1);
        int[] ranks = {1, 0, 9, 2};
        for (int rank : ranks) {
            x.party(0, 1, rank, NONE, false);
        }
        due("three of four", x.leave(0), 3);
        dueText("states", states(x), "2202");
        TooMany y = oneFlight(3);
        for (int rank : ranks) {
            y.party(0, 1, rank, NONE, false);
        }
        due("one of four", y.leave(0), 1);
        dueText("states", states(y), "0200");
    }

    private static void leftOfEqualRankTheGreatestNumber() {
        about("Terms 2: LEFT: of equal ones the greatest number");
        TooMany x = oneFlight(2);
        for (int p = 0; p < 4; p++) {
            x.party(0, 1, p == 3 ? 6 : 5, NONE, false);
        }
        due("two of four", x.leave(0), 2);
        dueText("states", states(x), "0220");
        TooMany all = oneFlight(19);
        for (int p = 0; p < 20; p++) {
            all.party(0, 1, 9, NONE, false);
        }
        due("one of 20", all.leave(0), 1);
        dueText("the 20th", states(all), "00000000000000000002");
    }

    private static void leftUntilOverIsZero() {
        about("Terms 2: LEFT: until OVER is 0");
        TooMany full = oneFlight(3);
        full.party(0, 3, 0, NONE, false);
        due("full: nobody", full.leave(0), 0);
        dueText("states", states(full), "0");
        TooMany just = oneFlight(1);
        just.party(0, 1, 2, NONE, false);
        just.party(0, 1, 1, NONE, false);
        just.party(0, 1, 0, NONE, false);
        due("just over", just.leave(0), 2);
        dueText("states", states(just), "022");
        TooMany more = oneFlight(5);
        more.party(0, 1, 2, NONE, false);
        more.party(0, 6, 1, NONE, false);
        due("a whole family for over 2", more.leave(0), 6);
        dueText("states", states(more), "02");
        TooMany off = oneFlight(40);
        for (int p = 0; p < 20; p++) {
            off.party(0, 6, p % 10, NONE, false);
        }
        off.off(0, true);
        due("one that is off: all", off.leave(0), 120);
        due("then nobody", off.leave(0), 0);
    }
}
