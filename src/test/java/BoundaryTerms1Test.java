/** The boundary cases of Terms 1, a function for each sentence: FLIGHTS, PARTIES, LOAD and OVER. */
public final class BoundaryTerms1Test extends Checks {
    private static final int[] FAR = {LEAST, LEAST + 1, MOST - 1, MOST};

    public static void main(String[] args) {
        flightsAreAtMostEight();
        citiesAreZeroToSeven();
        toAnotherCity();
        departsBeforeArrives();
        minutesAreZeroTo9999();
        seatsAreOneTo40();
        milesAreOneTo9999();
        aFlightGoesAtFirst();
        partiesAreAtMost20();
        aPartyIsOnAFlight();
        sizeIsOneToSix();
        rankIsZeroToNine();
        bidIsZeroTo999OrNone();
        mustOrNot();
        aPartyFliesAtFirst();
        oneThatGaveOrWasLeftHasNoWayAtFirst();
        loadOfAnEmptyFlight();
        loadOfThoseThatFly();
        loadOfThoseWhoseWayHasIt();
        overIsZeroAtLeast();
        overOfOneThatIsOff();
        end();
    }

    private static void flightsAreAtMostEight() {
        about("Terms 1: FLIGHTS 0 .. (at most 8)");
        TooMany x = new TooMany();
        for (int n = 0; n < 8; n++) {
            due("no flight yet", x.told(n, 2), NONE);
            due("flight", x.flight(0, 1, n, 10, n + 1, 1), n);
            due("its seats", x.told(n, 2), n + 1);
        }
        due("the ninth", x.flight(0, 1, 0, 1, 1, 1), NONE);
        due("a wrong ninth", x.flight(0, 0, 0, 1, 1, 1), NONE);
        due("flights", x.count(0), 8);
        due("seats of the eighth", x.told(7, 2), 8);
        due("seats of the ninth", x.told(8, 2), NONE);
        TooMany y = new TooMany();
        for (int n = 0; n < 9; n++) {
            due("refused", y.flight(0, 1, 0, 1, 0, 1), NONE);
        }
        due("those refused have no number", y.flight(0, 1, 0, 1, 1, 1), 0);
    }

    private static void citiesAreZeroToSeven() {
        about("Terms 1: a CITY (0 .. 7)");
        TooMany x = new TooMany();
        for (int city : new int[] {-1, 8, -2, 9, LEAST, LEAST + 1, MOST - 1, MOST}) {
            due("from " + city, x.flight(city, 1, 0, 1, 1, 1), NONE);
            due("to " + city, x.flight(1, city, 0, 1, 1, 1), NONE);
            due("from and to " + city, x.flight(city, city, 0, 1, 1, 1), NONE);
        }
        due("from 0 to 7", x.flight(0, 7, 0, 1, 1, 1), 0);
        due("from 7 to 0", x.flight(7, 0, 0, 1, 1, 1), 1);
        due("from 6 to 7", x.flight(6, 7, 0, 1, 1, 1), 2);
        due("from 1 to 0", x.flight(1, 0, 0, 1, 1, 1), 3);
    }

    private static void toAnotherCity() {
        about("Terms 1: from a CITY to another one");
        TooMany x = new TooMany();
        for (int city = 0; city < 8; city++) {
            due("from and to " + city, x.flight(city, city, 0, 1, 1, 1), NONE);
        }
        for (int city = 0; city < 8; city++) {
            due("from " + city + " to the next", x.flight(city, (city + 1) % 8, 0, 1, 1, 1), city);
        }
    }

    private static void departsBeforeArrives() {
        about("Terms 1: DEPARTS before ARRIVES");
        TooMany x = new TooMany();
        for (int minute : new int[] {0, 1, 500, 9998, 9999}) {
            due("at the same minute", x.flight(0, 1, minute, minute, 1, 1), NONE);
        }
        due("a minute late", x.flight(0, 1, 501, 500, 1, 1), NONE);
        due("from the last minute to the first", x.flight(0, 1, 9999, 0, 1, 1), NONE);
        due("none is made", x.count(0), 0);
        due("a minute ahead", x.flight(0, 1, 499, 500, 1, 1), 0);
    }

    private static void minutesAreZeroTo9999() {
        about("Terms 1: MINUTES 0 .. 9999");
        TooMany x = new TooMany();
        due("departs -1", x.flight(0, 1, -1, 5, 1, 1), NONE);
        due("departs -1, arrives 0", x.flight(0, 1, -1, 0, 1, 1), NONE);
        due("departs -2, arrives -1", x.flight(0, 1, -2, -1, 1, 1), NONE);
        due("arrives 10000", x.flight(0, 1, 5, 10000, 1, 1), NONE);
        due("departs 9999, arrives 10000", x.flight(0, 1, 9999, 10000, 1, 1), NONE);
        due("departs 10000, arrives 10001", x.flight(0, 1, 10000, 10001, 1, 1), NONE);
        for (int far : FAR) {
            due("departs " + far, x.flight(0, 1, far, 5, 1, 1), NONE);
            due("arrives " + far, x.flight(0, 1, 5, far, 1, 1), NONE);
        }
        due("from the least to the most", x.flight(0, 1, LEAST, MOST, 1, 1), NONE);
        due("from the most to the least", x.flight(0, 1, MOST, LEAST, 1, 1), NONE);
        due("none is made", x.count(0), 0);
        due("0 to 9999", x.flight(0, 1, 0, 9999, 1, 1), 0);
        due("0 to 1", x.flight(0, 1, 0, 1, 1, 1), 1);
        due("9998 to 9999", x.flight(0, 1, 9998, 9999, 1, 1), 2);
    }

    private static void seatsAreOneTo40() {
        about("Terms 1: SEATS 1 .. 40");
        TooMany x = new TooMany();
        for (int seats : new int[] {0, 41, -1, 42, LEAST, LEAST + 1, MOST - 1, MOST}) {
            due("seats " + seats, x.flight(0, 1, 0, 1, seats, 1), NONE);
        }
        due("none is made", x.count(0), 0);
        int[] right = {1, 2, 39, 40};
        for (int f = 0; f < right.length; f++) {
            due("seats " + right[f], x.flight(0, 1, 0, 1, right[f], 1), f);
            due("told", x.told(f, 2), right[f]);
        }
    }

    private static void milesAreOneTo9999() {
        about("Terms 1: MILES 1 .. 9999");
        TooMany x = new TooMany();
        for (int miles : new int[] {0, 10000, -1, 10001, LEAST, LEAST + 1, MOST - 1, MOST}) {
            due("miles " + miles, x.flight(0, 1, 0, 1, 1, miles), NONE);
        }
        due("none is made", x.count(0), 0);
        due("1 mile", x.flight(0, 1, 0, 1, 1, 1), 0);
        due("9999 miles", x.flight(0, 1, 0, 1, 1, 9999), 1);
    }

    private static void aFlightGoesAtFirst() {
        about("Terms 1: a FLIGHT goes or is OFF (goes at first)");
        TooMany x = oneFlight(2);
        due("off at first", x.told(0, 3), 0);
        x.party(0, 1, 0, NONE, false);
        due("people on one that goes", x.count(2), 1);
        x.off(0, true);
        x.flight(0, 1, 100, 200, 2, 1000);
        due("a new one beside one that is off", x.told(1, 3), 0);
    }

    private static void partiesAreAtMost20() {
        about("Terms 1: PARTIES 0 .. (at most 20)");
        TooMany x = oneFlight(1);
        x.flight(0, 1, 0, 1, 1, 1);
        for (int n = 0; n < 20; n++) {
            dueThrow("no party yet", x, n, 2);
            due("party", x.party(n % 2, 1 + n % 6, 0, n, false), n);
            due("its size", x.of(n, 2), 1 + n % 6);
        }
        due("the 21st", x.party(0, 1, 0, 0, false), NONE);
        due("the 21st on another flight", x.party(1, 1, 0, NONE, true), NONE);
        due("parties", x.count(1), 20);
        due("size of the 20th", x.of(19, 2), 2);
        dueThrow("the 21st", x, 20, 2);
        TooMany y = oneFlight(1);
        for (int n = 0; n < 21; n++) {
            due("refused", y.party(0, 0, 0, 0, false), NONE);
        }
        due("those refused have no number", y.party(0, 1, 0, 0, false), 0);
        y.off(0, true);
        y.leave(0);
        due("one that was left keeps its number", y.party(0, 1, 0, 0, false), 1);
    }

    private static void aPartyIsOnAFlight() {
        about("Terms 1: PARTIES, each on a FLIGHT");
        TooMany x = new TooMany();
        due("no flights", x.party(0, 1, 0, 0, false), NONE);
        x.flight(0, 1, 0, 1, 1, 1);
        x.flight(0, 1, 0, 1, 1, 1);
        for (int flight : new int[] {-1, 2, 8, LEAST, LEAST + 1, MOST - 1, MOST}) {
            due("flight " + flight, x.party(flight, 1, 0, 0, false), NONE);
        }
        due("none is made", x.count(1), 0);
        due("the last flight", x.party(1, 1, 0, 0, false), 0);
        due("the first flight", x.party(0, 1, 0, 0, false), 1);
        due("flight of 0", x.of(0, 1), 1);
        due("flight of 1", x.of(1, 1), 0);
        x.off(1, true);
        due("a flight that is off", x.party(1, 1, 0, 0, false), 2);
        for (int n = 2; n < 8; n++) {
            x.flight(0, 1, 0, 1, 1, 1);
        }
        due("the eighth flight", x.party(7, 1, 0, 0, false), 3);
        due("a ninth flight", x.party(8, 1, 0, 0, false), NONE);
    }

    private static void sizeIsOneToSix() {
        about("Terms 1: SIZE 1 .. 6");
        TooMany x = oneFlight(40);
        for (int size : new int[] {0, 7, -1, 8, LEAST, LEAST + 1, MOST - 1, MOST}) {
            due("size " + size, x.party(0, size, 0, 0, false), NONE);
        }
        due("load", x.told(0, 0), 0);
        due("size 1", x.party(0, 1, 0, 0, false), 0);
        due("size 6", x.party(0, 6, 0, 0, false), 1);
        due("load", x.told(0, 0), 7);
    }

    private static void rankIsZeroToNine() {
        about("Terms 1: RANK 0 .. 9");
        TooMany x = oneFlight(1);
        for (int rank : new int[] {-1, 10, -2, 11, LEAST, LEAST + 1, MOST - 1, MOST}) {
            due("rank " + rank, x.party(0, 1, rank, 0, false), NONE);
        }
        due("none is made", x.count(1), 0);
        due("rank 9", x.party(0, 1, 9, 0, false), 0);
        due("rank 0", x.party(0, 1, 0, 0, false), 1);
        due("rank 8", x.party(0, 1, 8, 0, false), 2);
        due("rank 1", x.party(0, 1, 1, 0, false), 3);
        due("all but one are left", x.leave(0), 3);
        dueText("the one of rank 9 stays", states(x), "0222");
    }

    private static void bidIsZeroTo999OrNone() {
        about("Terms 1: a BID 0 .. 999 or none (NONE)");
        TooMany x = oneFlight(1);
        for (int bid : new int[] {-2, 1000, -3, 1001, LEAST, LEAST + 1, MOST - 1, MOST}) {
            due("bid " + bid, x.party(0, 1, 0, bid, false), NONE);
        }
        due("none is made", x.count(1), 0);
        due("no bid", x.party(0, 1, 0, NONE, false), 0);
        due("bid 999", x.party(0, 1, 0, 999, false), 1);
        due("over 1", x.cost(0), 999);
        due("bid 0", x.party(0, 1, 0, 0, false), 2);
        due("over 2", x.cost(0), 999);
        x.off(0, true);
        due("over 3: one has no bid", x.cost(0), NOT_ENOUGH);
    }

    private static void mustOrNot() {
        about("Terms 1: MUST or not");
        TooMany x = oneFlight(40);
        due("must", x.party(0, 2, 0, 0, true), 0);
        due("must without a bid", x.party(0, 3, 9, NONE, true), 1);
        due("not", x.party(0, 6, 0, 0, false), 2);
        due("people with must", x.told(0, 4), 5);
    }

    private static void aPartyFliesAtFirst() {
        about("Terms 1: State: 0 FLIES, 1 GAVE, 2 LEFT");
        TooMany x = oneFlight(1);
        x.party(0, 1, 0, 7, false);
        x.party(0, 1, 0, NONE, false);
        x.party(0, 1, 9, NONE, true);
        dueText("at first", states(x), "000");
        dueText("all of one", party(x, 0), "0 0 1 0 -1 -1 -1 0");
        x.off(0, true);
        dueText("on one that is off", states(x), "000");
        x.off(0, false);
        x.leave(0);
        x.back(0);
        dueText("none has room", states(x), "220");
        TooMany y = oneFlight(1);
        y.party(0, 1, 0, 7, false);
        y.party(0, 1, 0, NONE, false);
        y.buy(0);
        y.off(0, true);
        y.leave(0);
        dueText("one gave, one was left", states(y), "12");
    }

    private static void oneThatGaveOrWasLeftHasNoWayAtFirst() {
        about("Terms 1: One that GAVE or was LEFT has a WAY or none: one FLIGHT, or two");
        TooMany x = oneFlight(1);
        x.flight(0, 1, 100, 300, 1, 1000);
        x.flight(0, 2, 100, 110, 1, 1000);
        x.flight(2, 1, 300, 400, 1, 1000);
        x.party(0, 1, 0, 5, false);
        x.party(0, 1, 0, NONE, false);
        x.buy(0);
        x.off(0, true);
        x.leave(0);
        x.party(0, 1, 0, NONE, false);
        x.leave(0);
        dueText("no ways", ways(x), "-- -- --");
        x.move();
        dueText("one flight, two, none", ways(x), "1- 23 --");
    }

    private static void loadOfAnEmptyFlight() {
        about("Terms 1: LOAD of a FLIGHT with nobody on it");
        TooMany x = oneFlight(1);
        dueText("empty", flight(x, 0), "0 0 1 0 0");
        x.off(0, true);
        dueText("empty and off", flight(x, 0), "0 0 1 1 0");
        x.flight(0, 1, 100, 200, 1, 1000);
        x.party(1, 1, 0, 0, false);
        due("somebody on another one", x.told(0, 0), 0);
    }

    private static void loadOfThoseThatFly() {
        about("Terms 1: LOAD: all SIZES of those on it that FLY");
        TooMany x = oneFlight(40);
        for (int p = 0; p < 20; p++) {
            x.party(0, 6, 0, p < 10 ? 1 : NONE, false);
        }
        due("20 parties of 6", x.told(0, 0), 120);
        due("over", x.told(0, 1), 80);
        due("not enough gave", x.buy(0), NOT_ENOUGH);
        due("as it was", x.told(0, 0), 120);
        due("14 are left", x.leave(0), 84);
        due("none of those left", x.told(0, 0), 36);
        due("4 seats for 6", x.back(6), false);
        x.party(0, 1, 0, 0, false);
        due("no 21st", x.told(0, 0), 36);
        TooMany y = oneFlight(2);
        y.party(0, 2, 0, 1, false);
        y.party(0, 1, 0, NONE, false);
        y.buy(0);
        due("none of those that gave", y.told(0, 0), 1);
    }

    private static void loadOfThoseWhoseWayHasIt() {
        about("Terms 1: LOAD: and of those whose WAY has it");
        TooMany x = allLeft(3, 2);
        x.flight(0, 1, 100, 300, 3, 1000);
        x.flight(0, 2, 100, 110, 9, 1000);
        x.flight(2, 1, 300, 400, 9, 1000);
        x.party(3, 1, 0, NONE, true);
        due("all move", x.move(), 5);
        dueText("one alone, two", ways(x), "1- 23 --");
        due("of one alone", x.told(1, 0), 3);
        due("of a first one", x.told(2, 0), 2);
        due("of a second one, beside one that flies", x.told(3, 0), 3);
        due("of its own, none", x.told(0, 0), 0);
        due("must of the second one: only who flies on it", x.told(3, 4), 1);
    }

    private static void overIsZeroAtLeast() {
        about("Terms 1: OVER: LOAD less SEATS (0 at least)");
        TooMany x = oneFlight(3);
        int[] over = {0, 0, 0, 1, 2};
        for (int n = 0; n < over.length; n++) {
            x.party(0, 1, 0, 0, false);
            due("over of " + (n + 1) + " on 3 seats", x.told(0, 1), over[n]);
        }
        TooMany most = oneFlight(40);
        for (int p = 0; p < 20; p++) {
            most.party(0, 2, 0, 0, false);
        }
        due("40 on 40 seats", most.told(0, 1), 0);
        TooMany by = allLeft(2);
        by.flight(0, 1, 100, 300, 2, 1000);
        by.move();
        due("full by a way", by.told(1, 1), 0);
        by.party(1, 1, 0, 0, false);
        due("one more", by.told(1, 1), 1);
    }

    private static void overOfOneThatIsOff() {
        about("Terms 1: OVER: of one that is OFF LOAD whole");
        TooMany x = oneFlight(3);
        x.party(0, 2, 0, 0, false);
        due("it goes", x.told(0, 1), 0);
        x.off(0, true);
        due("off, below its seats", x.told(0, 1), 2);
        x.party(0, 1, 0, 0, true);
        due("off, all seats, must too", x.told(0, 1), 3);
        x.party(0, 1, 0, 0, false);
        due("off, beyond its seats", x.told(0, 1), 4);
        x.off(0, false);
        due("it goes again", x.told(0, 1), 1);
        TooMany by = allLeft(2);
        by.flight(0, 1, 100, 300, 9, 1000);
        by.move();
        by.off(1, true);
        due("off, those by a way", by.told(1, 1), 2);
        due("off, nobody left on it", by.told(0, 1), 0);
    }
}
