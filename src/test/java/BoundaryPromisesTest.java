/** The boundary cases of promises 1 to 17, a function or more for each promise. */
public final class BoundaryPromisesTest extends Checks {
    /** Numbers that are none such, whatever there is. */
    private static final int[] NEVER = {-1, -2, 20, LEAST, LEAST + 1, MOST - 1, MOST};

    public static void main(String[] args) {
        promise1NoFlightsNoParties();
        promise1ObjectsShareNothing();
        promise2ItsNumber();
        promise2RefusedEight();
        promise3OffOrGoes();
        promise3NoneSuch();
        promise3WaysStay();
        promise4ItsNumber();
        promise4Refused20();
        promise5Change();
        promise5Fees();
        promise5AnotherWhat();
        promise6EachWhat();
        promise6NoneSuch();
        promise6AnotherWhat();
        promise7EachWhat();
        promise7NoneSuch();
        promise7AnotherWhat();
        promise8EachWhat();
        promise8AnotherWhat();
        promise9ZeroIfOverIsZero();
        promise9NotEnough();
        promise9NoSuchFlight();
        promise9NothingChanges();
        promise10AsCost();
        promise10NotEnough();
        promise10NoSuchFlight();
        promise11VIfOverIsZero();
        promise11NotEnough();
        promise11RefusedV();
        promise11RefusedS();
        promise11NoSuchFlight();
        promise12HowManyPeople();
        promise12NotAllOfOver();
        promise12NoSuchFlight();
        promise13FliesAgain();
        promise13NoneSuch();
        promise13ItFlies();
        promise13OverWouldBeAbove0();
        promise14NoSuchParty();
        promise14NoWay();
        promise14LoadsNotAsked();
        promise14AlsoOfOneThatFlies();
        promise15Parties();
        promise16PeopleThatHadNone();
        promise16MoreThanSix();
        promise17WaysAreGone();
        promise17HowManyParties();
        end();
    }

    private static void promise1NoFlightsNoParties() {
        about("Promise 1: No FLIGHTS, PARTIES");
        TooMany x = new TooMany();
        for (int what = 0; what < 7; what++) {
            due("count", x.count(what), 0);
        }
        for (int n : new int[] {-1, 0, 1, 7, 8}) {
            due("off", x.off(n, true), false);
            due("party", x.party(n, 1, 0, 0, false), NONE);
            due("told", x.told(n, 0), NONE);
            due("cost", x.cost(n), NONE);
            due("buy", x.buy(n), NONE);
            due("rounds", x.rounds(n, 0, 1), NONE);
            due("leave", x.leave(n), NONE);
            due("back", x.back(n), false);
            due("late", x.late(n, n, NONE), NONE);
            dueThrow("none", x, n, 0);
        }
        due("stranded", x.stranded(), 0);
        due("move", x.move(), 0);
        due("undo", x.undo(), 0);
        due("the first flight", x.flight(0, 1, 0, 1, 1, 1), 0);
        due("the first party", x.party(0, 1, 0, 0, false), 0);
    }

    private static void promise1ObjectsShareNothing() {
        about("Promise 1: A new object beside another one");
        TooMany x = allLeft(1, 2);
        x.set(0, 1);
        x.set(1, 2);
        x.set(2, 3);
        x.set(3, 4);
        TooMany y = new TooMany();
        due("flights", y.count(0), 0);
        due("parties", y.count(1), 0);
        due("stranded", y.stranded(), 0);
        due("change", y.set(0, 9), 45);
        due("fee 0", y.set(1, 9), 250);
        due("fee 1", y.set(2, 9), 400);
        due("fee 2", y.set(3, 9), 600);
        y.flight(0, 1, 0, 1, 1, 1);
        due("the other one's flights", x.count(0), 1);
        due("the other one's change", x.set(0, 1), 1);
    }

    private static void promise2ItsNumber() {
        about("Promise 2: A FLIGHT: its number");
        TooMany x = new TooMany();
        due("first", x.flight(0, 1, 0, 1, 1, 1), 0);
        due("refused", x.flight(0, 0, 0, 1, 1, 1), NONE);
        due("just like the first", x.flight(0, 1, 0, 1, 1, 1), 1);
        due("flights", x.count(0), 2);
    }

    private static void promise2RefusedEight() {
        about("Promise 2: Refused: 8");
        TooMany x = new TooMany();
        for (int n = 0; n < 8; n++) {
            due("flight", x.flight(n, (n + 1) % 8, n, n + 1, n + 1, n + 1), n);
        }
        String ahead = whole(x);
        due("the ninth", x.flight(0, 1, 0, 1, 1, 1), NONE);
        x.off(3, true);
        due("one being off makes no room", x.flight(0, 1, 0, 1, 1, 1), NONE);
        x.off(3, false);
        dueText("nothing changes", whole(x), ahead);
    }

    private static void promise3OffOrGoes() {
        about("Promise 3: A FLIGHT is OFF, or goes: true");
        TooMany x = oneFlight(1);
        x.flight(0, 1, 0, 1, 1, 1);
        due("goes, as it does", x.off(0, false), true);
        due("told", x.told(0, 3), 0);
        due("off", x.off(0, true), true);
        due("told", x.told(0, 3), 1);
        due("off, as it is", x.off(0, true), true);
        due("told", x.told(0, 3), 1);
        due("another one goes", x.told(1, 3), 0);
        due("goes", x.off(0, false), true);
        due("told", x.told(0, 3), 0);
        due("the last one", x.off(1, true), true);
        due("told", x.told(1, 3), 1);
        due("the first one goes", x.told(0, 3), 0);
    }

    private static void promise3NoneSuch() {
        about("Promise 3: false for none such");
        TooMany x = oneFlight(1);
        for (int flight : NEVER) {
            due("off", x.off(flight, true), false);
            due("goes", x.off(flight, false), false);
        }
        due("the next one", x.off(1, true), false);
        due("flights", x.count(0), 1);
        x.flight(0, 1, 0, 1, 1, 1);
        due("a new one goes", x.told(1, 3), 0);
    }

    private static void promise3WaysStay() {
        about("Promise 3: (WAYS by it stay.)");
        TooMany x = allLeft(2, 1);
        x.flight(0, 1, 100, 300, 2, 1000);
        x.flight(0, 2, 100, 110, 9, 1000);
        x.flight(2, 1, 200, 400, 9, 1000);
        x.move();
        for (int f = 1; f < 4; f++) {
            x.off(f, true);
            dueText("flight " + f + " is off", ways(x), "1- 23");
            dueText("the one by one flight", party(x, 0), "2 0 2 0 1 -1 100 0");
            dueText("the one by two", party(x, 1), "2 0 1 0 2 3 200 125");
            due("people with a way", x.count(5), 3);
            due("stranded", x.stranded(), 0);
            due("they are not moved again", x.move(), 0);
            x.off(f, false);
            dueText("flight " + f + " goes", ways(x), "1- 23");
        }
    }

    private static void promise4ItsNumber() {
        about("Promise 4: A PARTY: its number");
        TooMany x = oneFlight(1);
        due("first", x.party(0, 1, 0, 0, false), 0);
        due("refused", x.party(0, 7, 0, 0, false), NONE);
        due("just like the first", x.party(0, 1, 0, 0, false), 1);
        due("parties", x.count(1), 2);
        due("beyond the seats", x.told(0, 1), 1);
    }

    private static void promise4Refused20() {
        about("Promise 4: Refused: 20");
        TooMany x = oneFlight(40);
        for (int n = 0; n < 20; n++) {
            due("party", x.party(0, 1, 0, n, false), n);
        }
        String ahead = whole(x);
        due("the 21st", x.party(0, 1, 0, 0, false), NONE);
        dueText("nothing changes", whole(x), ahead);
        x.off(0, true);
        x.leave(0);
        due("all being left makes no room", x.party(0, 1, 0, 0, false), NONE);
        due("parties", x.count(1), 20);
    }

    private static void promise5Change() {
        about("Promise 5: CHANGE (what 0) becomes v: what it was");
        TooMany x = new TooMany();
        due("45 at first, to 300", x.set(0, 300), 45);
        for (int v : new int[] {-1, 301, -2, 302, 9999, LEAST, LEAST + 1, MOST - 1, MOST}) {
            due("to " + v, x.set(0, v), NONE);
        }
        due("300, to 0", x.set(0, 0), 300);
        due("0, to 1", x.set(0, 1), 0);
        due("1, to 299", x.set(0, 299), 1);
        due("299, to 299", x.set(0, 299), 299);
        due("fee 0 is as it was", x.set(1, 250), 250);
    }

    private static void promise5Fees() {
        about("Promise 5: FEE 0 .. 2 (1 .. 3; 0 .. 9999) becomes v: what it was");
        TooMany x = new TooMany();
        int[] first = {45, 250, 400, 600};
        for (int what = 1; what < 4; what++) {
            due("to 9999", x.set(what, 9999), first[what]);
            for (int v : new int[] {-1, 10000, -2, 10001, LEAST, LEAST + 1, MOST - 1, MOST}) {
                due("to " + v, x.set(what, v), NONE);
            }
            due("to 0", x.set(what, 0), 9999);
            due("to 301", x.set(what, 301), 0);
            due("to what it was at first", x.set(what, first[what]), 301);
        }
        for (int what = 0; what < 4; what++) {
            due("all are as at first", x.set(what, 0), first[what]);
        }
    }

    private static void promise5AnotherWhat() {
        about("Promise 5: Refused: others");
        TooMany x = new TooMany();
        for (int what : new int[] {-1, 4, -2, 5, LEAST, LEAST + 1, MOST - 1, MOST}) {
            for (int v : new int[] {0, 1, 300, 9999, LEAST, MOST}) {
                due("set(" + what + ", " + v + ")", x.set(what, v), NONE);
            }
        }
        due("change", x.set(0, 0), 45);
        due("fee 0", x.set(1, 0), 250);
        due("fee 1", x.set(2, 0), 400);
        due("fee 2", x.set(3, 0), 600);
    }

    private static void promise6EachWhat() {
        about("Promise 6: LOAD, OVER, SEATS, OFF (1, 0), people on it with MUST that FLY");
        TooMany x = oneFlight(4);
        dueText("empty", flight(x, 0), "0 0 4 0 0");
        x.party(0, 3, 0, NONE, true);
        x.party(0, 1, 0, NONE, false);
        dueText("full", flight(x, 0), "4 0 4 0 3");
        x.party(0, 1, 0, NONE, true);
        dueText("one over", flight(x, 0), "5 1 4 0 4");
        x.off(0, true);
        dueText("off", flight(x, 0), "5 5 4 1 4");
        x.off(0, false);
        x.leave(0);
        dueText("one left", flight(x, 0), "4 0 4 0 4");
        TooMany none = oneFlight(40);
        none.party(0, 6, 0, 0, false);
        dueText("nobody must", flight(none, 0), "6 0 40 0 0");
    }

    private static void promise6NoneSuch() {
        about("Promise 6: NONE: none such");
        TooMany x = oneFlight(4);
        for (int flight : NEVER) {
            for (int what = 0; what < 5; what++) {
                due("told(" + flight + ", " + what + ")", x.told(flight, what), NONE);
            }
        }
        due("the next one", x.told(1, 2), NONE);
        x.flight(0, 1, 0, 1, 3, 1);
        due("now it is there", x.told(1, 2), 3);
        due("the next one", x.told(2, 2), NONE);
    }

    private static void promise6AnotherWhat() {
        about("Promise 6: NONE: another what");
        TooMany x = oneFlight(4);
        for (int what : new int[] {-1, 5, -2, 6, LEAST, LEAST + 1, MOST - 1, MOST}) {
            due("told(0, " + what + ")", x.told(0, what), NONE);
            due("told(1, " + what + ")", x.told(1, what), NONE);
        }
    }

    private static void promise7EachWhat() {
        about("Promise 7: state, FLIGHT, SIZE, what it GAVE for (0), its WAY (NONE), LATE (NONE), CLAIM (0)");
        TooMany x = oneFlight(6);
        x.flight(0, 1, 100, 320, 6, 1000);
        x.flight(0, 2, 100, 110, 1, 1000);
        x.flight(2, 1, 200, 500, 1, 1000);
        x.party(0, 6, 1, 8, false);
        x.party(0, 1, 0, NONE, false);
        x.party(3, 1, 0, NONE, false);
        dueText("it flies", party(x, 0), "0 0 6 0 -1 -1 -1 0");
        dueText("on the last flight", party(x, 2), "0 3 1 0 -1 -1 -1 0");
        x.rounds(0, 9, 1);
        dueText("it gave", party(x, 0), "1 0 6 9 -1 -1 -1 54");
        x.off(0, true);
        x.leave(0);
        dueText("it was left", party(x, 1), "2 0 1 0 -1 -1 -1 250");
        x.off(3, true);
        x.leave(3);
        x.off(3, false);
        x.move();
        dueText("it gave and has one flight", party(x, 0), "1 0 6 9 1 -1 120 54");
        dueText("it was left and has two", party(x, 1), "2 0 1 0 2 3 300 250");
        dueText("it was left and has none", party(x, 2), "2 3 1 0 -1 -1 -1 250");
    }

    private static void promise7NoneSuch() {
        about("Promise 7: NoSuchElementException: none such");
        TooMany x = oneFlight(4);
        dueThrow("no parties", x, 0, 0);
        x.party(0, 1, 0, 0, false);
        for (int party : NEVER) {
            for (int what = 0; what < 8; what++) {
                dueThrow("none such", x, party, what);
            }
        }
        dueThrow("the next one", x, 1, 0);
        x.party(0, 2, 0, 0, false);
        due("now it is there", x.of(1, 2), 2);
        dueThrow("the next one", x, 2, 0);
    }

    private static void promise7AnotherWhat() {
        about("Promise 7: NoSuchElementException: another what");
        TooMany x = oneFlight(4);
        x.party(0, 1, 0, 0, false);
        for (int what : new int[] {-1, 8, -2, 9, LEAST, LEAST + 1, MOST - 1, MOST}) {
            dueThrow("another what", x, 0, what);
            dueThrow("another what of none such", x, 1, what);
        }
        dueText("nothing changes", party(x, 0), "0 0 1 0 -1 -1 -1 0");
    }

    private static void promise8EachWhat() {
        about("Promise 8: FLIGHTS, PARTIES, people that FLY on FLIGHTS that go, GAVE, LEFT, have a WAY, CLAIMS");
        TooMany x = oneFlight(6);
        x.flight(0, 1, 100, 320, 3, 1000);
        x.party(0, 3, 1, 8, false);
        x.party(0, 2, 0, NONE, false);
        x.party(0, 4, 9, NONE, true);
        x.party(1, 1, 9, NONE, false);
        dueText("all fly", counts(x), "2 4 10 0 0 0 0");
        x.buy(0);
        dueText("three gave", counts(x), "2 4 7 3 0 0 24");
        x.party(0, 1, 9, NONE, true);
        x.leave(0);
        dueText("two were left", counts(x), "2 5 6 3 2 0 524");
        x.move();
        dueText("two have a way, 120 late", counts(x), "2 5 6 3 2 2 274");
        x.off(1, true);
        dueText("one flight is off", counts(x), "2 5 5 3 2 2 274");
        x.off(0, true);
        dueText("both are off", counts(x), "2 5 0 3 2 2 274");
        x.undo();
        dueText("no ways", counts(x), "2 5 0 3 2 0 524");
    }

    private static String counts(TooMany x) {
        StringBuilder all = new StringBuilder();
        for (int what = 0; what < 7; what++) {
            all.append(what == 0 ? "" : " ").append(x.count(what));
        }
        return all.toString();
    }

    private static void promise8AnotherWhat() {
        about("Promise 8: NONE for another what");
        TooMany x = allLeft(1, 2);
        for (int what : new int[] {-1, 7, -2, 8, LEAST, LEAST + 1, MOST - 1, MOST}) {
            due("count(" + what + ")", x.count(what), NONE);
        }
    }

    private static void promise9ZeroIfOverIsZero() {
        about("Promise 9: (0 if OVER is 0)");
        TooMany x = oneFlight(2);
        due("empty", x.cost(0), 0);
        x.party(0, 2, 0, NONE, true);
        due("full, nobody has a bid", x.cost(0), 0);
        x.party(0, 1, 0, 7, false);
        due("one over", x.cost(0), 7);
        TooMany off = oneFlight(2);
        off.off(0, true);
        due("off and empty", off.cost(0), 0);
    }

    private static void promise9NotEnough() {
        about("Promise 9: -2: their SIZES are not enough");
        TooMany x = oneFlight(2);
        x.party(0, 3, 0, NONE, false);
        due("nobody has a bid", x.cost(0), NOT_ENOUGH);
        x.party(0, 2, 0, 5, false);
        due("2 for over 3", x.cost(0), NOT_ENOUGH);
        TooMany y = oneFlight(2);
        y.party(0, 2, 0, NONE, false);
        y.party(0, 2, 0, 5, false);
        due("2 for over 2", y.cost(0), 10);
        y.off(0, true);
        due("2 for over 4", y.cost(0), NOT_ENOUGH);
    }

    private static void promise9NoSuchFlight() {
        about("Promise 9: NONE: no such FLIGHT");
        TooMany x = oneFlight(2);
        for (int flight : NEVER) {
            due("cost", x.cost(flight), NONE);
        }
        due("the next one", x.cost(1), NONE);
        for (int n = 1; n < 8; n++) {
            x.flight(0, 1, 0, 1, 1, 1);
        }
        due("the eighth", x.cost(7), 0);
        due("the ninth", x.cost(8), NONE);
    }

    private static void promise9NothingChanges() {
        about("Promise 9: (Nothing changes.)");
        TooMany x = oneFlight(2);
        x.party(0, 2, 0, 9, false);
        x.party(0, 2, 0, 5, false);
        String ahead = whole(x);
        due("cost", x.cost(0), 10);
        dueText("whole", whole(x), ahead);
        due("cost again", x.cost(0), 10);
        x.off(0, true);
        due("of both", x.cost(0), 28);
        x.off(0, false);
        dueText("whole", whole(x), ahead);
    }

    private static void promise10AsCost() {
        about("Promise 10: They are BOUGHT: the cost. As cost().");
        TooMany empty = oneFlight(2);
        due("empty", empty.buy(0), 0);
        empty.party(0, 2, 0, 0, false);
        due("full", empty.buy(0), 0);
        dueText("nobody gave", states(empty), "0");
        TooMany x = oneFlight(2);
        x.party(0, 2, 0, 9, false);
        x.party(0, 2, 0, 5, false);
        due("cost", x.cost(0), 10);
        due("buy", x.buy(0), 10);
        dueText("who gave", states(x), "01");
        due("buy again", x.buy(0), 0);
        due("cost then", x.cost(0), 0);
        dueText("nobody more", states(x), "01");
    }

    private static void promise10NotEnough() {
        about("Promise 10: -2: their SIZES are not enough");
        TooMany x = oneFlight(2);
        x.party(0, 3, 0, NONE, false);
        x.party(0, 2, 0, 5, false);
        String ahead = whole(x);
        due("2 for over 3", x.buy(0), NOT_ENOUGH);
        dueText("nothing changes", whole(x), ahead);
        x.party(0, 1, 0, 5, false);
        due("3 for over 4", x.buy(0), NOT_ENOUGH);
        x.party(0, 1, 0, 0, true);
        due("3 for over 5", x.buy(0), NOT_ENOUGH);
        x.leave(0);
        dueText("all but must are left", states(x), "2220");
    }

    private static void promise10NoSuchFlight() {
        about("Promise 10: NONE: no such FLIGHT");
        TooMany x = oneFlight(1);
        x.party(0, 2, 0, 5, false);
        String ahead = whole(x);
        for (int flight : NEVER) {
            due("buy", x.buy(flight), NONE);
        }
        due("the next one", x.buy(1), NONE);
        dueText("nothing changes", whole(x), ahead);
    }

    private static void promise11VIfOverIsZero() {
        about("Promise 11: the OFFER (v if OVER is 0)");
        TooMany x = oneFlight(2);
        for (int v : new int[] {0, 1, 500, 998, 999}) {
            due("empty", x.rounds(0, v, 1), v);
            due("empty, by 999", x.rounds(0, v, 999), v);
        }
        x.party(0, 2, 0, 0, false);
        due("full", x.rounds(0, 7, 1), 7);
        dueText("nobody gave", states(x), "0");
        x.party(0, 1, 0, 3, false);
        due("one over", x.rounds(0, 7, 1), 7);
        dueText("the one of bid 0 gave", states(x), "10");
        due("for 7", x.of(0, 3), 7);
        due("then v", x.rounds(0, 9, 1), 9);
        due("still for 7", x.of(0, 3), 7);
    }

    private static void promise11NotEnough() {
        about("Promise 11: -2: not enough come forward");
        TooMany x = oneFlight(1);
        x.party(0, 1, 0, 900, false);
        x.party(0, 2, 0, NONE, false);
        String ahead = whole(x);
        due("1 for over 2", x.rounds(0, 0, 1), NOT_ENOUGH);
        due("1 for over 2, v 999", x.rounds(0, 999, 999), NOT_ENOUGH);
        dueText("nothing changes", whole(x), ahead);
        x.party(0, 1, 0, 999, false);
        due("2 for over 3", x.rounds(0, 999, 1), NOT_ENOUGH);
        TooMany y = oneFlight(1);
        y.party(0, 1, 0, 900, false);
        y.party(0, 1, 0, 950, false);
        due("no offer between 899 and 999 comes, nor above", y.rounds(0, 899, 101), NOT_ENOUGH);
        dueText("nobody gave", states(y), "00");
        due("one offer is 999", y.rounds(0, 899, 100), 999);
        dueText("the less bid gave", states(y), "10");
    }

    private static void promise11RefusedV() {
        about("Promise 11: refused: v (0 .. 999)");
        TooMany x = oneFlight(1);
        due("-1, OVER 0", x.rounds(0, -1, 1), NONE);
        due("1000, OVER 0", x.rounds(0, 1000, 1), NONE);
        x.party(0, 1, 0, 0, false);
        x.party(0, 1, 0, 0, false);
        String ahead = whole(x);
        for (int v : new int[] {-1, 1000, -2, 1001, LEAST, LEAST + 1, MOST - 1, MOST}) {
            due("v " + v, x.rounds(0, v, 1), NONE);
            due("v " + v + ", s 999", x.rounds(0, v, 999), NONE);
        }
        dueText("nothing changes", whole(x), ahead);
        due("0", x.rounds(0, 0, 1), 0);
    }

    private static void promise11RefusedS() {
        about("Promise 11: refused: s (1 .. 999)");
        TooMany x = oneFlight(1);
        due("0, OVER 0", x.rounds(0, 5, 0), NONE);
        due("1000, OVER 0", x.rounds(0, 5, 1000), NONE);
        x.party(0, 1, 0, 10, false);
        x.party(0, 1, 0, 10, false);
        String ahead = whole(x);
        for (int s : new int[] {0, 1000, -1, 1001, LEAST, LEAST + 1, MOST - 1, MOST}) {
            due("s " + s, x.rounds(0, 5, s), NONE);
            due("s " + s + ", the first offer would do", x.rounds(0, 10, s), NONE);
        }
        dueText("nothing changes", whole(x), ahead);
        due("1", x.rounds(0, 5, 1), 10);
    }

    private static void promise11NoSuchFlight() {
        about("Promise 11: refused: others");
        TooMany x = oneFlight(1);
        x.party(0, 2, 0, 5, false);
        String ahead = whole(x);
        for (int flight : NEVER) {
            due("rounds", x.rounds(flight, 5, 1), NONE);
        }
        due("the next one", x.rounds(1, 5, 1), NONE);
        dueText("nothing changes", whole(x), ahead);
    }

    private static void promise12HowManyPeople() {
        about("Promise 12: PARTIES are LEFT: how many people");
        TooMany x = oneFlight(5);
        due("empty", x.leave(0), 0);
        x.party(0, 5, 1, NONE, false);
        due("full", x.leave(0), 0);
        x.party(0, 1, 5, NONE, true);
        due("5 for over 1", x.leave(0), 5);
        due("again", x.leave(0), 0);
        dueText("states", states(x), "20");
        x.party(0, 5, 1, NONE, false);
        x.party(0, 3, 1, NONE, false);
        due("3 for over 4, then 5", x.leave(0), 8);
        dueText("states", states(x), "2022");
    }

    private static void promise12NotAllOfOver() {
        about("Promise 12: -2: not all of OVER can be (nothing changes)");
        TooMany x = oneFlight(1);
        x.party(0, 2, 0, NONE, true);
        String ahead = whole(x);
        due("none can be", x.leave(0), NOT_ENOUGH);
        dueText("nothing changes", whole(x), ahead);
        x.party(0, 3, 0, NONE, false);
        ahead = whole(x);
        due("3 for over 4", x.leave(0), NOT_ENOUGH);
        dueText("nothing changes, though some could be", whole(x), ahead);
        TooMany y = oneFlight(2);
        y.party(0, 2, 0, NONE, true);
        y.party(0, 3, 0, NONE, false);
        due("3 for over 3", y.leave(0), 3);
        y.off(0, true);
        due("must on one that is off", y.leave(0), NOT_ENOUGH);
        dueText("states", states(y), "02");
        TooMany way = allLeft(2);
        way.flight(0, 1, 100, 300, 2, 1000);
        way.move();
        way.party(1, 1, 0, NONE, false);
        due("one flies for over 1", way.leave(1), 1);
        way.off(1, true);
        due("one whose way has it cannot be left", way.leave(1), NOT_ENOUGH);
        dueText("its way stays", ways(way), "1- --");
    }

    private static void promise12NoSuchFlight() {
        about("Promise 12: NONE: no such FLIGHT");
        TooMany x = oneFlight(1);
        x.party(0, 2, 0, 5, false);
        String ahead = whole(x);
        for (int flight : NEVER) {
            due("leave", x.leave(flight), NONE);
        }
        due("the next one", x.leave(1), NONE);
        dueText("nothing changes", whole(x), ahead);
    }

    private static void promise13FliesAgain() {
        about("Promise 13: FLIES again on its FLIGHT, without WAY and coin: true");
        TooMany x = oneFlight(3);
        x.flight(0, 1, 100, 300, 3, 1000);
        x.party(0, 3, 0, 8, false);
        x.party(0, 3, 0, NONE, false);
        x.rounds(0, 9, 1);
        x.move();
        dueText("it gave", party(x, 0), "1 0 3 9 1 -1 100 27");
        x.off(0, true);
        x.leave(0);
        x.off(0, false);
        due("it that gave", x.back(0), true);
        dueText("it flies", party(x, 0), "0 0 3 0 -1 -1 -1 0");
        due("load of its flight", x.told(0, 0), 3);
        due("load of its way", x.told(1, 0), 0);
        x.off(0, true);
        due("it can give again", x.buy(0), 24);
        x.off(0, false);
        due("one that was left", x.back(1), true);
        dueText("it flies", party(x, 1), "0 0 3 0 -1 -1 -1 0");
    }

    private static void promise13NoneSuch() {
        about("Promise 13: Refused: none such");
        TooMany x = allLeft(1);
        x.off(0, false);
        for (int party : NEVER) {
            due("back", x.back(party), false);
        }
        due("the next one", x.back(1), false);
        dueText("it is still left", states(x), "2");
    }

    private static void promise13ItFlies() {
        about("Promise 13: Refused: it FLIES");
        TooMany x = oneFlight(9);
        x.party(0, 1, 0, NONE, false);
        String ahead = whole(x);
        due("it flies", x.back(0), false);
        dueText("nothing changes", whole(x), ahead);
        x.off(0, true);
        x.leave(0);
        x.off(0, false);
        due("it was left", x.back(0), true);
        due("it flies again", x.back(0), false);
    }

    private static void promise13OverWouldBeAbove0() {
        about("Promise 13: Refused: OVER would be above 0");
        TooMany x = oneFlight(4);
        x.flight(0, 1, 100, 300, 9, 1000);
        x.party(0, 3, 0, 8, false);
        x.party(0, 2, 0, NONE, false);
        x.buy(0);
        x.move();
        String ahead = whole(x);
        due("5 on 4 seats", x.back(0), false);
        dueText("nothing changes", whole(x), ahead);
        TooMany just = oneFlight(5);
        just.party(0, 3, 0, 8, false);
        just.party(0, 2, 9, NONE, false);
        just.party(0, 1, 9, 7, false);
        due("one gives", just.buy(0), 7);
        due("6 on 5 seats", just.back(2), false);
        just.off(0, true);
        due("all give or are left", just.leave(0), 5);
        due("one that is off", just.back(2), false);
        just.off(0, false);
        due("3 on 5 seats", just.back(0), true);
        due("5 on 5 seats", just.back(1), true);
        due("6 on 5 seats again", just.back(2), false);
        TooMany way = allLeft(2);
        way.flight(0, 1, 100, 300, 3, 1000);
        way.party(1, 2, 0, NONE, false);
        way.off(1, true);
        way.leave(1);
        way.off(1, false);
        way.off(0, true);
        due("one is moved there", way.move(), 2);
        due("4 on 3 seats, two of them by a way", way.back(1), false);
        TooMany small = oneFlight(1);
        small.party(0, 2, 0, NONE, false);
        small.leave(0);
        due("2 on 1 seat, alone", small.back(0), false);
    }

    /** Flight 0 from 0 to 1; 1 and 2 are ways of it, alone or as two with 3. */
    private static TooMany someWays() {
        TooMany x = oneFlight(1);
        x.flight(0, 1, 100, 300, 1, 1000);
        x.flight(0, 2, 100, 110, 1, 1000);
        x.flight(2, 1, 200, 400, 1, 1000);
        x.party(0, 6, 0, 5, false);
        return x;
    }

    private static void promise14NoSuchParty() {
        about("Promise 14: NONE: no such PARTY");
        TooMany x = someWays();
        due("of the one", x.late(0, 1, NONE), 100);
        for (int party : NEVER) {
            due("late", x.late(party, 1, NONE), NONE);
            due("late by two", x.late(party, 2, 3), NONE);
        }
        due("the next one", x.late(1, 1, NONE), NONE);
    }

    private static void promise14NoWay() {
        about("Promise 14: NONE: that is no WAY of it");
        TooMany x = someWays();
        due("by two", x.late(0, 2, 3), 200);
        for (int flight : new int[] {-1, -2, 4, 8, LEAST, LEAST + 1, MOST - 1, MOST}) {
            due("first " + flight, x.late(0, flight, NONE), NONE);
            due("first " + flight + ", second 3", x.late(0, flight, 3), NONE);
            if (flight != NONE) {
                due("second " + flight, x.late(0, 1, flight), NONE);
                due("first 2, second " + flight, x.late(0, 2, flight), NONE);
            }
        }
        due("second NONE: one", x.late(0, 1, NONE), 100);
        due("the first of two alone", x.late(0, 2, NONE), NONE);
        due("the second of two alone", x.late(0, 3, NONE), NONE);
        due("its own", x.late(0, 0, NONE), NONE);
        due("one that is enough and another", x.late(0, 1, 3), NONE);
    }

    private static void promise14LoadsNotAsked() {
        about("Promise 14: (LOADS not asked)");
        TooMany x = someWays();
        due("6 on 1 seat", x.late(0, 1, NONE), 100);
        x.party(1, 6, 0, NONE, false);
        x.party(2, 6, 0, NONE, false);
        x.party(3, 6, 0, NONE, false);
        due("it is over", x.late(0, 1, NONE), 100);
        due("both are over", x.late(0, 2, 3), 200);
    }

    private static void promise14AlsoOfOneThatFlies() {
        about("Promise 14: also of one that FLIES");
        TooMany x = someWays();
        due("flies", x.late(0, 2, 3), 200);
        x.leave(0);
        due("was left", x.late(0, 2, 3), 200);
        x.off(0, true);
        due("was left, its own is off", x.late(0, 2, 3), 200);
        TooMany gave = someWays();
        gave.buy(0);
        due("gave", gave.late(0, 1, NONE), 100);
        TooMany moved = allLeft(1);
        moved.flight(0, 1, 100, 300, 1, 1000);
        moved.flight(0, 1, 100, 400, 1, 1000);
        moved.move();
        due("by its way", moved.late(0, 1, NONE), 100);
        due("by another way than its own", moved.late(0, 2, NONE), 200);
    }

    private static void promise15Parties() {
        about("Promise 15: How many have no WAY of those that GAVE or were LEFT (PARTIES)");
        TooMany x = oneFlight(1);
        due("no parties", x.stranded(), 0);
        x.party(0, 6, 0, 5, false);
        x.party(0, 1, 9, NONE, false);
        due("all fly", x.stranded(), 0);
        x.off(0, true);
        due("all fly, it is off", x.stranded(), 0);
        x.off(0, false);
        x.buy(0);
        due("one party of 6 gave", x.stranded(), 1);
        x.off(0, true);
        x.leave(0);
        due("one more was left", x.stranded(), 2);
        x.flight(0, 1, 100, 300, 1, 1000);
        x.move();
        dueText("the small one has a way", ways(x), "-- 1-");
        due("one has none", x.stranded(), 1);
        x.off(1, true);
        due("a way by one that is off", x.stranded(), 1);
        x.undo();
        due("the way is gone", x.stranded(), 2);
        x.off(0, false);
        x.back(1);
        due("one is back", x.stranded(), 1);
        TooMany all = oneFlight(1);
        for (int p = 0; p < 20; p++) {
            all.party(0, 6, 0, NONE, false);
        }
        all.leave(0);
        due("all 20, more than can be moved", all.stranded(), 20);
    }

    private static void promise16PeopleThatHadNone() {
        about("Promise 16: how many people have a WAY then that had none");
        TooMany x = new TooMany();
        due("nobody", x.move(), 0);
        x = allLeft(6, 5);
        due("no way", x.move(), 0);
        x.flight(0, 1, 100, 300, 5, 1000);
        due("5 people", x.move(), 5);
        due("none more", x.move(), 0);
        x.flight(0, 1, 100, 300, 6, 1000);
        due("6 people, not 11", x.move(), 6);
        due("all have one", x.count(5), 11);
        due("none more", x.move(), 0);
    }

    private static void promise16MoreThanSix() {
        about("Promise 16: NONE: more than 6 PARTIES");
        TooMany x = allLeft(1, 1, 1, 1, 1, 1, 1);
        String ahead = whole(x);
        due("seven and no way", x.move(), NONE);
        dueText("nothing changes", whole(x), ahead);
        x.flight(0, 1, 100, 300, 3, 1000);
        due("seven and a way", x.move(), NONE);
        dueText("no ways", ways(x), "-- -- -- -- -- -- --");
        due("stranded", x.stranded(), 7);
        due("load of the way", x.told(1, 0), 0);
        x.off(0, false);
        due("one is back", x.back(6), true);
        due("six", x.move(), 3);
        dueText("three have a way", ways(x), "1- 1- 1- -- -- -- --");
        x.off(0, true);
        due("one is left again", x.leave(0), 1);
        x.flight(0, 1, 100, 400, 40, 1000);
        due("four of seven have none", x.move(), 4);
        x.off(1, true);
        x.off(2, true);
        due("all ways are gone", x.undo(), 7);
        due("seven again", x.move(), NONE);
    }

    private static void promise17WaysAreGone() {
        about("Promise 17: WAYS of all PARTIES that have a FLIGHT that is OFF are gone");
        for (int f = 0; f < 4; f++) {
            TooMany x = allLeft(2, 1);
            x.flight(0, 1, 100, 300, 2, 1000);
            x.flight(0, 2, 100, 110, 9, 1000);
            x.flight(2, 1, 200, 400, 9, 1000);
            due("moved", x.move(), 3);
            x.off(f, true);
            due("flight " + f + " is off", x.undo(), f == 0 ? 0 : 1);
            dueText("ways", ways(x), f == 0 ? "1- 23" : f == 1 ? "-- 23" : "1- --");
            due("loads", x.told(1, 0) + x.told(2, 0) + x.told(3, 0), f == 0 ? 4 : 2);
            dueText("they are still left", states(x), "22");
        }
        TooMany gave = oneFlight(1);
        gave.flight(0, 1, 100, 300, 2, 1000);
        gave.party(0, 2, 0, 9, false);
        gave.buy(0);
        gave.move();
        gave.off(1, true);
        due("of one that gave", gave.undo(), 1);
        dueText("it keeps its coin", party(gave, 0), "1 0 2 9 -1 -1 -1 18");
    }

    private static void promise17HowManyParties() {
        about("Promise 17: how many PARTIES");
        TooMany x = new TooMany();
        due("no parties", x.undo(), 0);
        x = allLeft(6, 1);
        due("no ways", x.undo(), 0);
        x.flight(0, 2, 100, 110, 9, 1000);
        x.flight(2, 1, 200, 400, 9, 1000);
        due("moved", x.move(), 7);
        due("all go", x.undo(), 0);
        x.off(1, true);
        x.off(1, false);
        due("it goes again", x.undo(), 0);
        x.off(1, true);
        x.off(2, true);
        due("two parties, each once", x.undo(), 2);
        due("again", x.undo(), 0);
    }
}
