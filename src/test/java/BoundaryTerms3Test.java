/** The boundary cases of Terms 3, a function for each sentence: WAYS, LATE, MOVED, CLAIMS, refused calls. */
public final class BoundaryTerms3Test extends Checks {

    public static void main(String[] args) {
        anotherFlight();
        fromTheFirstCityToTheLast();
        twoFlights();
        changeOrMoreMinutes();
        changeIsZeroTo300();
        eachGoes();
        firstDepartsNotAhead();
        lateIsZeroAtLeast();
        movedAreAtMostSix();
        movedHaveNoWay();
        eachHasAWayOrNone();
        noLoadAboveSeats();
        noGreaterLoadThanItHad();
        theMostPeople();
        theLeastLate();
        theLessFirstFlight();
        theFirstPartyThatIsNotAlike();
        oneAloneAheadOfTwo();
        theLessSecondFlight();
        noneIsBehindAll();
        feesByMiles();
        feesAtFirst();
        nothingBelow120();
        halfBelow240();
        halfIsCut();
        claimTimesSize();
        claimOfOneThatGave();
        end();
    }

    /** A party of one on flight 0, from 0 to 1, minutes 100 to 500. */
    private static TooMany oneParty() {
        TooMany x = new TooMany();
        x.flight(0, 1, 100, 500, 4, 1000);
        x.party(0, 1, 0, 0, false);
        return x;
    }

    private static void anotherFlight() {
        about("Terms 3: A WAY: another FLIGHT");
        TooMany x = oneParty();
        due("its own", x.late(0, 0, NONE), NONE);
        x.flight(0, 1, 100, 500, 4, 1000);
        due("one like its own", x.late(0, 1, NONE), 0);
        TooMany y = oneFlight(9);
        y.party(0, 1, 0, NONE, false);
        y.off(0, true);
        y.leave(0);
        y.off(0, false);
        due("not moved to its own", y.move(), 0);
    }

    private static void fromTheFirstCityToTheLast() {
        about("Terms 3: A WAY: from its FLIGHT's first CITY to its last one");
        TooMany x = oneParty();
        x.flight(0, 2, 100, 500, 4, 1000);
        x.flight(2, 1, 100, 500, 4, 1000);
        x.flight(1, 0, 100, 500, 4, 1000);
        due("to another city", x.late(0, 1, NONE), NONE);
        due("from another city", x.late(0, 2, NONE), NONE);
        due("the other way round", x.late(0, 3, NONE), NONE);
    }

    private static void twoFlights() {
        about("Terms 3: or two, the second from where the first one comes to");
        TooMany x = oneParty();
        x.flight(0, 2, 100, 110, 4, 1000);
        x.flight(2, 1, 200, 600, 4, 1000);
        x.flight(3, 1, 200, 600, 4, 1000);
        x.flight(2, 3, 200, 600, 4, 1000);
        x.flight(3, 2, 100, 110, 4, 1000);
        x.flight(0, 1, 100, 110, 4, 1000);
        x.flight(1, 2, 200, 600, 4, 1000);
        due("two", x.late(0, 1, 2), 100);
        due("the second from elsewhere", x.late(0, 1, 3), NONE);
        due("the second to elsewhere", x.late(0, 1, 4), NONE);
        due("the first from elsewhere", x.late(0, 5, 2), NONE);
        due("the second first", x.late(0, 2, 1), NONE);
        due("the first twice", x.late(0, 1, 1), NONE);
        due("one that is enough, twice", x.late(0, 6, 6), NONE);
        due("one that is enough, then away", x.late(0, 6, 7), NONE);
        due("one that is enough, then from elsewhere", x.late(0, 6, 2), NONE);
        due("its own as the second", x.late(0, 1, 0), NONE);
        due("its own as the first", x.late(0, 0, 2), NONE);
    }

    private static void changeOrMoreMinutes() {
        about("Terms 3: departing CHANGE or more MINUTES behind its arrival (at first 45)");
        TooMany x = oneParty();
        x.flight(0, 2, 100, 200, 4, 1000);
        x.flight(2, 1, 244, 600, 4, 1000);
        x.flight(2, 1, 245, 600, 4, 1000);
        x.flight(2, 1, 246, 600, 4, 1000);
        x.flight(2, 1, 100, 600, 4, 1000);
        due("44 minutes", x.late(0, 1, 2), NONE);
        due("45 minutes", x.late(0, 1, 3), 100);
        due("46 minutes", x.late(0, 1, 4), 100);
        due("ahead of its arrival", x.late(0, 1, 5), NONE);
        x.set(0, 46);
        due("45 minutes, change 46", x.late(0, 1, 3), NONE);
        due("46 minutes, change 46", x.late(0, 1, 4), 100);
    }

    private static void changeIsZeroTo300() {
        about("Terms 3: CHANGE (0 .. 300)");
        TooMany x = oneParty();
        x.flight(0, 2, 100, 200, 4, 1000);
        x.flight(2, 1, 199, 600, 4, 1000);
        x.flight(2, 1, 200, 600, 4, 1000);
        x.flight(2, 1, 499, 600, 4, 1000);
        x.flight(2, 1, 500, 600, 4, 1000);
        due("to 0", x.set(0, 0), 45);
        due("a minute ahead", x.late(0, 1, 2), NONE);
        due("at the same minute", x.late(0, 1, 3), 100);
        due("to 300", x.set(0, 300), 0);
        due("299 minutes", x.late(0, 1, 4), NONE);
        due("300 minutes", x.late(0, 1, 5), 100);
        for (int v : new int[] {-1, 301, LEAST, MOST}) {
            due("to " + v, x.set(0, v), NONE);
        }
        due("as it was", x.set(0, 300), 300);
    }

    private static void eachGoes() {
        about("Terms 3: each goes");
        TooMany x = oneParty();
        x.flight(0, 2, 100, 200, 4, 1000);
        x.flight(2, 1, 300, 600, 4, 1000);
        x.flight(0, 1, 300, 700, 4, 1000);
        x.off(1, true);
        due("the first is off", x.late(0, 1, 2), NONE);
        x.off(1, false);
        x.off(2, true);
        due("the second is off", x.late(0, 1, 2), NONE);
        x.off(2, false);
        x.off(3, true);
        due("the one is off", x.late(0, 3, NONE), NONE);
        due("another one being off is no matter", x.late(0, 1, 2), 100);
        x.off(0, true);
        due("its own being off is no matter", x.late(0, 1, 2), 100);
    }

    private static void firstDepartsNotAhead() {
        about("Terms 3: the first departs not ahead of when its own FLIGHT departs");
        TooMany x = oneParty();
        x.flight(0, 1, 99, 600, 4, 1000);
        x.flight(0, 1, 100, 600, 4, 1000);
        x.flight(0, 1, 101, 600, 4, 1000);
        x.flight(0, 2, 99, 150, 4, 1000);
        x.flight(0, 2, 100, 150, 4, 1000);
        x.flight(2, 1, 200, 600, 4, 1000);
        due("one, a minute ahead", x.late(0, 1, NONE), NONE);
        due("one, at the same minute", x.late(0, 2, NONE), 100);
        due("one, a minute behind", x.late(0, 3, NONE), 100);
        due("two, a minute ahead", x.late(0, 4, 6), NONE);
        due("two, at the same minute", x.late(0, 5, 6), 100);
    }

    private static void lateIsZeroAtLeast() {
        about("Terms 3: LATE: when it arrives less when its own FLIGHT does, 0 at least");
        TooMany x = oneParty();
        x.flight(0, 1, 100, 499, 4, 1000);
        x.flight(0, 1, 100, 500, 4, 1000);
        x.flight(0, 1, 100, 501, 4, 1000);
        x.flight(0, 1, 100, 101, 4, 1000);
        x.flight(0, 1, 100, 9999, 4, 1000);
        x.flight(0, 2, 100, 110, 4, 1000);
        x.flight(2, 1, 200, 499, 4, 1000);
        due("a minute ahead", x.late(0, 1, NONE), 0);
        due("at the same minute", x.late(0, 2, NONE), 0);
        due("a minute behind", x.late(0, 3, NONE), 1);
        due("at once", x.late(0, 4, NONE), 0);
        due("at the last minute", x.late(0, 5, NONE), 9499);
        due("by two, a minute ahead", x.late(0, 6, 7), 0);
        TooMany most = new TooMany();
        most.flight(0, 1, 0, 1, 1, 1);
        most.flight(0, 1, 9998, 9999, 1, 1);
        most.party(0, 1, 0, NONE, false);
        due("the most", most.late(0, 1, NONE), 9998);
        most.off(0, true);
        most.leave(0);
        most.move();
        due("the most, by its way", most.of(0, 6), 9998);
    }

    private static void movedAreAtMostSix() {
        about("Terms 3: MOVED: (at most 6 of them)");
        TooMany six = allLeft(6, 6, 6, 6, 6, 6);
        six.flight(0, 1, 100, 300, 36, 1000);
        due("six of 6", six.move(), 36);
        dueText("all by one flight", ways(six), "1- 1- 1- 1- 1- 1-");
        TooMany seven = allLeft(1, 1, 1, 1, 1, 1, 1);
        seven.flight(0, 1, 100, 300, 36, 1000);
        due("seven", seven.move(), NONE);
        dueText("none has a way", ways(seven), "-- -- -- -- -- -- --");
        TooMany all = oneFlight(40);
        for (int p = 0; p < 20; p++) {
            all.party(0, 1, 0, NONE, false);
        }
        all.off(0, true);
        all.leave(0);
        due("twenty", all.move(), NONE);
    }

    private static void movedHaveNoWay() {
        about("Terms 3: MOVED: all PARTIES that GAVE or were LEFT and have no WAY");
        TooMany x = oneFlight(2);
        x.flight(0, 1, 100, 900, 9, 1000);
        x.party(0, 1, 0, NONE, false);
        x.party(0, 1, 9, 5, false);
        x.party(0, 1, 9, NONE, true);
        x.party(1, 1, 0, NONE, false);
        due("all fly", x.move(), 0);
        due("one gives", x.buy(0), 5);
        x.party(0, 1, 9, NONE, true);
        due("one is left", x.leave(0), 1);
        due("both go", x.move(), 2);
        dueText("who flies has no way", ways(x), "1- 1- -- -- --");
        x.flight(0, 1, 100, 300, 9, 1000);
        due("they have a way", x.move(), 0);
        dueText("they keep it though there is a better one", ways(x), "1- 1- -- -- --");
    }

    private static void eachHasAWayOrNone() {
        about("Terms 3: MOVED: each has a WAY or none");
        TooMany x = allLeft(1);
        due("no flight", x.move(), 0);
        dueText("none", ways(x), "--");
        x.flight(0, 1, 99, 300, 9, 1000);
        due("ahead", x.move(), 0);
        x.flight(0, 2, 100, 200, 9, 1000);
        x.flight(2, 1, 244, 300, 9, 1000);
        due("too little change", x.move(), 0);
        x.set(0, 44);
        due("enough change", x.move(), 1);
        dueText("two", ways(x), "23");
        x.set(0, 45);
        dueText("a way stays, whatever CHANGE becomes", ways(x), "23");
        TooMany none = new TooMany();
        due("no parties", none.move(), 0);
    }

    private static void noLoadAboveSeats() {
        about("Terms 3: MOVED: no FLIGHT has a LOAD above its SEATS that had not ahead");
        TooMany just = allLeft(3);
        just.flight(0, 1, 100, 300, 3, 1000);
        due("just the seats", just.move(), 3);
        TooMany few = allLeft(3);
        few.flight(0, 1, 100, 300, 2, 1000);
        due("a seat too few", few.move(), 0);
        TooMany taken = allLeft(3);
        taken.flight(0, 1, 100, 300, 9, 1000);
        taken.party(1, 6, 0, NONE, false);
        due("three seats beside six", taken.move(), 3);
        TooMany six = allLeft(3);
        six.flight(0, 1, 100, 300, 8, 1000);
        six.party(1, 6, 0, NONE, false);
        due("two seats beside six", six.move(), 0);
        TooMany first = allLeft(3);
        first.flight(0, 2, 100, 110, 2, 1000);
        first.flight(2, 1, 200, 300, 3, 1000);
        due("a seat too few in the first", first.move(), 0);
        TooMany second = allLeft(3);
        second.flight(0, 2, 100, 110, 3, 1000);
        second.flight(2, 1, 200, 300, 2, 1000);
        due("a seat too few in the second", second.move(), 0);
        TooMany both = allLeft(3);
        both.flight(0, 2, 100, 110, 3, 1000);
        both.flight(2, 1, 200, 300, 3, 1000);
        due("just the seats in both", both.move(), 3);
        TooMany two = allLeft(2, 2);
        two.flight(0, 1, 100, 300, 3, 1000);
        due("together they are too many", two.move(), 2);
        TooMany ways = allLeft(2);
        ways.flight(0, 1, 100, 300, 3, 1000);
        ways.move();
        ways.party(0, 2, 0, NONE, false);
        ways.leave(0);
        due("a way of another one has the seats", ways.move(), 0);
    }

    private static void noGreaterLoadThanItHad() {
        about("Terms 3: MOVED: nor a greater one than it had");
        TooMany x = allLeft(1);
        x.flight(0, 1, 100, 300, 1, 1000);
        x.flight(0, 1, 100, 400, 1, 1000);
        x.party(1, 2, 0, NONE, false);
        due("over ahead", x.told(1, 1), 1);
        due("by the other one", x.move(), 1);
        dueText("ways", ways(x), "2- --");
        due("load as it was", x.told(1, 0), 2);
        TooMany full = allLeft(1);
        full.flight(0, 1, 100, 300, 1, 1000);
        full.party(1, 1, 0, NONE, false);
        due("full ahead", full.move(), 0);
        TooMany fine = allLeft(1);
        fine.flight(2, 3, 100, 300, 1, 1000);
        fine.flight(0, 1, 100, 300, 1, 1000);
        fine.party(1, 6, 0, NONE, false);
        due("one that is over elsewhere is no matter", fine.move(), 1);
    }

    private static void theMostPeople() {
        about("Terms 3: MOVED: the most people have one");
        TooMany people = allLeft(3, 2, 2);
        people.flight(0, 1, 100, 300, 4, 1000);
        due("4 and not 3", people.move(), 4);
        dueText("ways", ways(people), "-- 1- 1-");
        TooMany parties = allLeft(1, 1, 3);
        parties.flight(0, 1, 100, 300, 3, 1000);
        due("3 people, not 2 parties", parties.move(), 3);
        dueText("ways", ways(parties), "-- -- 1-");
        TooMany late = allLeft(5, 6);
        late.flight(0, 1, 100, 200, 5, 1000);
        late.flight(0, 1, 100, 9999, 6, 1000);
        due("one person more, however late", late.move(), 11);
        dueText("ways", ways(late), "1- 2-");
        TooMany more = new TooMany();
        more.flight(0, 1, 0, 1, 1, 1);
        more.flight(3, 1, 0, 9998, 1, 1);
        more.flight(0, 2, 0, 100, 40, 1);
        more.flight(3, 2, 0, 100, 40, 1);
        more.flight(2, 1, 200, 9999, 6, 1);
        more.party(0, 6, 0, NONE, false);
        more.party(1, 5, 0, NONE, false);
        more.leave(0);
        more.leave(1);
        due("6 that are 9998 late, not 5 that are 1 late", more.move(), 6);
        dueText("ways", ways(more), "24 --");
        TooMany most = new TooMany();
        most.flight(0, 1, 0, 1, 1, 1);
        most.flight(3, 1, 0, 9998, 1, 1);
        most.flight(0, 2, 0, 100, 40, 1);
        most.flight(3, 2, 0, 100, 40, 1);
        most.flight(2, 1, 200, 9999, 15, 1);
        for (int size : new int[] {5, 5, 5}) {
            most.party(0, size, 0, NONE, false);
        }
        for (int size : new int[] {6, 6, 2}) {
            most.party(1, size, 0, NONE, false);
        }
        most.off(0, true);
        most.off(1, true);
        most.leave(0);
        most.leave(1);
        due("15 that are 9998 late, not 14 that are 1 late", most.move(), 15);
        dueText("ways", ways(most), "24 24 24 -- -- --");
    }

    private static void theLeastLate() {
        about("Terms 3: MOVED: of equal ones the least sum of LATE times SIZE");
        TooMany one = allLeft(1);
        one.flight(0, 1, 100, 301, 9, 1000);
        one.flight(0, 1, 100, 300, 9, 1000);
        one.move();
        dueText("a minute less", ways(one), "2-");
        TooMany early = allLeft(1);
        early.flight(0, 1, 100, 200, 9, 1000);
        early.flight(0, 1, 100, 150, 9, 1000);
        early.move();
        dueText("both are 0 late", ways(early), "1-");
        TooMany size = allLeft(2, 3);
        size.flight(0, 1, 100, 300, 3, 1000);
        size.flight(0, 1, 100, 310, 3, 1000);
        size.move();
        dueText("times size: the larger one is less late", ways(size), "2- 1-");
        TooMany two = allLeft(1);
        two.flight(0, 1, 100, 301, 9, 1000);
        two.flight(0, 2, 100, 110, 9, 1000);
        two.flight(2, 1, 200, 300, 9, 1000);
        two.move();
        dueText("by two, a minute less", ways(two), "23");
        TooMany sum = allLeft(1, 1, 2);
        sum.flight(0, 1, 100, 300, 2, 1000);
        sum.flight(0, 1, 100, 400, 4, 1000);
        sum.move();
        dueText("the sum alike: the first ones by the less flight", ways(sum), "1- 1- 2-");
        TooMany order = allLeft(1, 1, 1, 1, 1, 1);
        order.flight(0, 2, 100, 110, 9, 1000);
        order.flight(2, 1, 200, 303, 1, 1000);
        order.flight(0, 1, 100, 304, 1, 1000);
        order.flight(2, 1, 200, 301, 1, 1000);
        order.flight(0, 1, 100, 302, 1, 1000);
        order.flight(2, 1, 200, 300, 1, 1000);
        order.flight(0, 1, 100, 305, 1, 1000);
        due("each by a way of its own", order.move(), 6);
        dueText("the less flights for the first ones", ways(order), "12 14 16 3- 5- 7-");
    }

    private static void theLessFirstFlight() {
        about("Terms 3: MOVED: for the first PARTY that is not alike the less first FLIGHT");
        TooMany one = allLeft(1);
        one.flight(0, 1, 150, 300, 9, 1000);
        one.flight(0, 1, 100, 300, 9, 1000);
        one.move();
        dueText("one", ways(one), "1-");
        TooMany two = allLeft(1, 1);
        two.flight(0, 1, 100, 300, 1, 1000);
        two.flight(0, 1, 100, 300, 1, 1000);
        two.move();
        dueText("the first of two", ways(two), "1- 2-");
        TooMany ahead = allLeft(1, 2);
        ahead.flight(0, 1, 100, 300, 2, 1000);
        ahead.flight(0, 1, 100, 300, 2, 1000);
        ahead.move();
        dueText("the first, though it is smaller", ways(ahead), "1- 2-");
        TooMany pairs = allLeft(1);
        pairs.flight(0, 2, 100, 110, 9, 1000);
        pairs.flight(0, 1, 100, 300, 9, 1000);
        pairs.flight(2, 1, 200, 300, 9, 1000);
        pairs.move();
        dueText("two with the less first one, not one alone", ways(pairs), "13");
        TooMany zero = new TooMany();
        zero.flight(0, 1, 100, 300, 9, 1000);
        zero.flight(0, 1, 100, 200, 1, 1000);
        zero.flight(0, 1, 100, 300, 9, 1000);
        zero.party(1, 2, 0, NONE, false);
        zero.leave(1);
        zero.move();
        dueText("flight 0 too", ways(zero), "0-");
    }

    private static void theFirstPartyThatIsNotAlike() {
        about("Terms 3: MOVED: for the first PARTY that is not alike");
        TooMany x = new TooMany();
        for (int from : new int[] {0, 2, 3}) {
            x.flight(from, 1, 100, 200, 1, 1000);
        }
        x.flight(0, 2, 100, 110, 9, 1000);
        x.flight(0, 3, 100, 110, 9, 1000);
        x.flight(2, 1, 200, 300, 3, 1000);
        x.flight(3, 1, 200, 300, 3, 1000);
        x.party(0, 3, 0, NONE, false);
        x.party(1, 1, 0, NONE, false);
        x.party(1, 1, 0, NONE, false);
        x.party(2, 2, 0, NONE, false);
        for (int f = 0; f < 3; f++) {
            x.off(f, true);
            x.leave(f);
        }
        due("the first and two more", x.move(), 5);
        dueText("the less flight for the first, though the next two then have none", ways(x), "35 -- -- 6-");
        TooMany second = allLeft(1, 1, 1);
        second.flight(0, 1, 100, 300, 1, 1000);
        second.flight(0, 1, 100, 300, 1, 1000);
        second.flight(0, 1, 100, 300, 1, 1000);
        second.move();
        dueText("the first, then the second, then the third", ways(second), "1- 2- 3-");
    }

    /** One flight is never a way alone and the first of two as well, so the first flights always differ. */
    private static void oneAloneAheadOfTwo() {
        about("Terms 3: MOVED: then one alone ahead of two");
        TooMany x = allLeft(1);
        x.flight(2, 1, 200, 300, 9, 1000);
        x.flight(0, 1, 100, 300, 9, 1000);
        x.flight(0, 2, 100, 110, 9, 1000);
        x.move();
        dueText("one alone, its first flight is less", ways(x), "2-");
        TooMany later = allLeft(1, 1);
        later.flight(0, 1, 100, 300, 1, 1000);
        later.flight(0, 2, 100, 110, 9, 1000);
        later.flight(2, 1, 200, 300, 9, 1000);
        later.move();
        dueText("the first alone, the second by two", ways(later), "1- 23");
    }

    private static void theLessSecondFlight() {
        about("Terms 3: MOVED: then the less second one");
        TooMany x = allLeft(1);
        x.flight(0, 2, 100, 110, 9, 1000);
        x.flight(2, 1, 250, 300, 9, 1000);
        x.flight(2, 1, 200, 300, 9, 1000);
        x.move();
        dueText("the less one", ways(x), "12");
        TooMany two = allLeft(1, 1);
        two.flight(2, 1, 200, 300, 1, 1000);
        two.flight(2, 1, 200, 300, 1, 1000);
        two.flight(0, 2, 100, 110, 9, 1000);
        two.move();
        dueText("the first has the less one", ways(two), "31 32");
        TooMany first = allLeft(1);
        first.flight(2, 1, 200, 300, 9, 1000);
        first.flight(0, 3, 100, 110, 9, 1000);
        first.flight(0, 2, 100, 110, 9, 1000);
        first.flight(3, 1, 200, 300, 9, 1000);
        first.move();
        dueText("the first flight is asked ahead of it", ways(first), "24");
        TooMany zero = new TooMany();
        zero.flight(2, 1, 200, 300, 9, 1000);
        zero.flight(0, 1, 100, 150, 1, 1000);
        zero.flight(2, 1, 200, 300, 9, 1000);
        zero.flight(0, 2, 100, 110, 9, 1000);
        zero.party(1, 2, 0, NONE, false);
        zero.leave(1);
        zero.move();
        dueText("flight 0 too", ways(zero), "30");
    }

    private static void noneIsBehindAll() {
        about("Terms 3: MOVED: none is behind all");
        TooMany x = allLeft(1, 1);
        x.flight(0, 1, 100, 300, 1, 1000);
        x.move();
        dueText("the first has one", ways(x), "1- --");
        TooMany y = allLeft(2, 1, 1);
        y.flight(0, 1, 100, 300, 2, 1000);
        y.move();
        dueText("the first, not the two behind it", ways(y), "1- -- --");
        TooMany z = allLeft(1, 2, 1);
        z.flight(0, 1, 100, 300, 2, 1000);
        z.move();
        dueText("the first and so the third", ways(z), "1- -- 1-");
        TooMany last = allLeft(1, 1);
        last.flight(0, 3, 100, 110, 1, 1000);
        last.flight(0, 3, 100, 110, 1, 1000);
        last.flight(0, 3, 100, 110, 9, 1000);
        for (int second = 4; second < 8; second++) {
            last.flight(3, 1, 200, 300, 1, 1000);
        }
        for (int full : new int[] {1, 2, 4, 5, 6}) {
            last.party(full, 1, 0, NONE, false);
        }
        last.move();
        dueText("the last of twelve ways is ahead of none", ways(last), "37 -- -- -- -- -- --");
    }

    /** A party of so many left on a flight of so many miles, with a way that is so late (none: -1). */
    private static TooMany leftBehind(int size, int miles, int late) {
        TooMany x = new TooMany();
        x.flight(0, 1, 100, 1000, 9, miles);
        x.party(0, size, 0, 77, false);
        x.off(0, true);
        x.leave(0);
        if (late >= 0) {
            x.flight(0, 1, 100, 1000 + late, 9, 1);
            x.move();
            due("late", x.of(0, 6), late);
        }
        return x;
    }

    private static void feesByMiles() {
        about("Terms 3: CLAIM: a BASE by MILES: FEE 0 up to 1500, FEE 1 up to 3500, else FEE 2");
        int[][] fees = {{1, 11}, {1499, 11}, {1500, 11}, {1501, 12}, {3499, 12}, {3500, 12}, {3501, 13}, {9999, 13}};
        for (int[] f : fees) {
            TooMany x = leftBehind(1, f[0], -1);
            x.set(1, 11);
            x.set(2, 12);
            x.set(3, 13);
            due("claim for " + f[0] + " miles", x.of(0, 7), f[1]);
        }
    }

    private static void feesAtFirst() {
        about("Terms 3: CLAIM: FEE 0 (250 at first), FEE 1 (400), FEE 2 (600)");
        due("near", leftBehind(1, 1500, -1).of(0, 7), 250);
        due("middle", leftBehind(1, 3500, -1).of(0, 7), 400);
        due("far", leftBehind(1, 3501, -1).of(0, 7), 600);
    }

    private static void nothingBelow120() {
        about("Terms 3: CLAIM: nothing, if it has a WAY with LATE below 120");
        due("late 0", leftBehind(1, 2000, 0).of(0, 7), 0);
        due("late 1", leftBehind(1, 2000, 1).of(0, 7), 0);
        due("late 119", leftBehind(1, 2000, 119).of(0, 7), 0);
        due("late 120", leftBehind(1, 2000, 120).of(0, 7), 200);
        due("no way at all", leftBehind(1, 2000, -1).of(0, 7), 400);
        TooMany gone = leftBehind(1, 2000, 119);
        gone.off(1, true);
        due("a way by one that is off is a way", gone.of(0, 7), 0);
        gone.undo();
        due("the way is gone", gone.of(0, 7), 400);
    }

    private static void halfBelow240() {
        about("Terms 3: CLAIM: half of it with LATE below 240");
        due("late 120", leftBehind(1, 2000, 120).of(0, 7), 200);
        due("late 239", leftBehind(1, 2000, 239).of(0, 7), 200);
        due("late 240", leftBehind(1, 2000, 240).of(0, 7), 400);
        due("late 8999", leftBehind(1, 2000, 8999).of(0, 7), 400);
    }

    private static void halfIsCut() {
        about("Terms 3: CLAIM: half of it (cut)");
        int[][] halves = {{0, 0}, {1, 0}, {2, 1}, {3, 1}, {9999, 4999}};
        for (int[] h : halves) {
            TooMany x = leftBehind(1, 2000, 120);
            x.set(2, h[0]);
            due("half of " + h[0], x.of(0, 7), h[1]);
            TooMany three = leftBehind(3, 2000, 120);
            three.set(2, h[0]);
            due("half of " + h[0] + ", then times 3", three.of(0, 7), 3 * h[1]);
        }
    }

    private static void claimTimesSize() {
        about("Terms 3: CLAIM: times SIZE");
        due("6 without a way", leftBehind(6, 2000, -1).of(0, 7), 2400);
        due("6 and half", leftBehind(6, 2000, 120).of(0, 7), 1200);
        due("6 and whole", leftBehind(6, 2000, 240).of(0, 7), 2400);
        due("6 and nothing", leftBehind(6, 2000, 119).of(0, 7), 0);
        TooMany most = new TooMany();
        most.flight(0, 1, 0, 1, 1, 9999);
        most.set(3, 9999);
        for (int p = 0; p < 20; p++) {
            most.party(0, 6, 0, NONE, false);
        }
        most.off(0, true);
        most.leave(0);
        due("the most of one", most.of(19, 7), 59994);
        due("the most of all", most.count(6), 1199880);
    }

    private static void claimOfOneThatGave() {
        about("Terms 3: CLAIM: Of one that GAVE: what it was BOUGHT for (OFFER or BID) times SIZE");
        TooMany bid = oneFlight(1);
        bid.party(0, 6, 0, 999, false);
        bid.buy(0);
        due("its bid", bid.of(0, 7), 5994);
        bid.flight(0, 1, 100, 210, 9, 1000);
        bid.move();
        due("late 10 is no matter", bid.of(0, 6), 10);
        due("its bid, by a way", bid.of(0, 7), 5994);
        bid.set(1, 1);
        due("its bid, whatever the fee", bid.of(0, 7), 5994);
        TooMany offer = oneFlight(1);
        offer.party(0, 6, 0, 5, false);
        offer.rounds(0, 999, 1);
        due("the offer", offer.of(0, 7), 5994);
        TooMany nothing = oneFlight(1);
        nothing.party(0, 6, 0, 0, false);
        nothing.buy(0);
        due("for nothing", nothing.of(0, 7), 0);
    }
}
