import java.util.NoSuchElementException;

/** Flights sold beyond their seats: who gives up, who is left, and by which later flights they go. */
public final class TooMany {
    public static final int NONE = -1;

    private static final int NOT_ENOUGH = -2;

    private static final int MOST_FLIGHTS = 8;
    private static final int MOST_PARTIES = 20;
    private static final int MOST_MOVED = 6;
    private static final int LAST_CITY = 7;
    private static final int LAST_MINUTE = 9999;
    private static final int MOST_SEATS = 40;
    private static final int MOST_MILES = 9999;
    private static final int MOST_SIZE = 6;
    private static final int MOST_PEOPLE = MOST_PARTIES * MOST_SIZE;
    private static final int LAST_RANK = 9;
    private static final int MOST_COIN = 999;
    private static final int MOST_CHANGE = 300;
    private static final int MOST_FEE = 9999;

    private static final int NEAR_MILES = 1500;
    private static final int MIDDLE_MILES = 3500;
    private static final int LATE_FOR_HALF = 120;
    private static final int LATE_FOR_WHOLE = 240;

    private static final int FLIES = 0;
    private static final int GAVE = 1;
    private static final int LEFT = 2;

    private final Flight[] flights = new Flight[MOST_FLIGHTS];
    private final Party[] parties = new Party[MOST_PARTIES];
    private final int[] fees = {250, 400, 600};
    private final long[] cheapest = new long[MOST_PEOPLE + 1];
    private final Mover mover = new Mover();
    private int flightCount = 0;
    private int partyCount = 0;
    private int change = 45;

    public TooMany() {
    }

    public int flight(int from, int to, int departs, int arrives, int seats, int miles) {
        if (flightCount >= MOST_FLIGHTS) {
            return NONE;
        }
        if (!within(from, 0, LAST_CITY) || !within(to, 0, LAST_CITY) || from == to) {
            return NONE;
        }
        if (departs < 0 || departs >= arrives || arrives > LAST_MINUTE) {
            return NONE;
        }
        if (!within(seats, 1, MOST_SEATS) || !within(miles, 1, MOST_MILES)) {
            return NONE;
        }
        int number = flightCount;
        flights[number] = new Flight(number, from, to, departs, arrives, seats, miles);
        flightCount++;
        return number;
    }

    public boolean off(int flight, boolean is) {
        Flight f = flightAt(flight);
        if (f == null) {
            return false;
        }
        f.isOff = is;
        return true;
    }

    public int party(int flight, int size, int rank, int bid, boolean must) {
        Flight own = flightAt(flight);
        if (own == null || partyCount >= MOST_PARTIES) {
            return NONE;
        }
        if (!within(size, 1, MOST_SIZE) || !within(rank, 0, LAST_RANK) || !within(bid, NONE, MOST_COIN)) {
            return NONE;
        }
        int number = partyCount;
        parties[number] = new Party(own, size, rank, bid, must);
        partyCount++;
        return number;
    }

    public int set(int what, int v) {
        if (what == 0) {
            return setChange(v);
        }
        int fee = what - 1;
        if (fee < 0 || fee >= fees.length || !within(v, 0, MOST_FEE)) {
            return NONE;
        }
        int was = fees[fee];
        fees[fee] = v;
        return was;
    }

    public int told(int flight, int what) {
        Flight f = flightAt(flight);
        if (f == null) {
            return NONE;
        }
        switch (what) {
            case 0: return loadOf(f);
            case 1: return overOf(f);
            case 2: return f.seats;
            case 3: return f.isOff ? 1 : 0;
            case 4: return mustPeople(f);
            default: return NONE;
        }
    }

    public int of(int party, int what) throws NoSuchElementException {
        Party p = partyAt(party);
        if (p == null) {
            throw new NoSuchElementException("no such party");
        }
        switch (what) {
            case 0: return p.state;
            case 1: return p.own.number;
            case 2: return p.size;
            case 3: return p.coin;
            case 4: return numberOf(p.first);
            case 5: return numberOf(p.second);
            case 6: return p.lateByWay();
            case 7: return claimOf(p);
            default: throw new NoSuchElementException("no such question");
        }
    }

    public int count(int what) {
        switch (what) {
            case 0: return flightCount;
            case 1: return partyCount;
            case 2: return flyingPeople();
            case 3: return peopleIn(GAVE);
            case 4: return peopleIn(LEFT);
            case 5: return peopleWithWay();
            case 6: return allClaims();
            default: return NONE;
        }
    }

    public int cost(int flight) {
        Flight f = flightAt(flight);
        if (f == null) {
            return NONE;
        }
        long deal = cheapestDeal(f, overOf(f));
        return deal < 0 ? NOT_ENOUGH : coinOfDeal(deal);
    }

    public int buy(int flight) {
        Flight f = flightAt(flight);
        if (f == null) {
            return NONE;
        }
        long deal = cheapestDeal(f, overOf(f));
        if (deal < 0) {
            return NOT_ENOUGH;
        }
        for (int i = 0; i < partyCount; i++) {
            if (has(deal, i)) {
                parties[i].giveUp(GAVE, parties[i].bid);
            }
        }
        return coinOfDeal(deal);
    }

    public int rounds(int flight, int v, int s) {
        Flight f = flightAt(flight);
        if (f == null || !within(v, 0, MOST_COIN) || !within(s, 1, MOST_COIN)) {
            return NONE;
        }
        int over = overOf(f);
        if (over == 0) {
            return v;
        }
        int taken = lowestBidders(f, over);
        if (taken == 0) {
            return NOT_ENOUGH;
        }
        int offer = firstOffer(highestBid(taken), v, s);
        if (offer > MOST_COIN) {
            return NOT_ENOUGH;
        }
        for (int i = 0; i < partyCount; i++) {
            if (has(taken, i)) {
                parties[i].giveUp(GAVE, offer);
            }
        }
        return offer;
    }

    public int leave(int flight) {
        Flight f = flightAt(flight);
        if (f == null) {
            return NONE;
        }
        int over = overOf(f);
        if (leavablePeople(f) < over) {
            return NOT_ENOUGH;
        }
        int people = 0;
        for (int turn = 0; turn < partyCount && people < over; turn++) {
            Party p = nextToLeave(f);
            if (p == null) {
                break;
            }
            p.giveUp(LEFT, 0);
            people += p.size;
        }
        return people;
    }

    public boolean back(int party) {
        Party p = partyAt(party);
        if (p == null || p.state == FLIES) {
            return false;
        }
        // Its way never has its own flight, so the way going does not free a seat there.
        if (p.own.isOff || loadOf(p.own) + p.size > p.own.seats) {
            return false;
        }
        p.flyAgain();
        return true;
    }

    public int late(int party, int first, int second) {
        Party p = partyAt(party);
        Flight a = flightAt(first);
        Flight b = flightAt(second);
        if (p == null || a == null || b == null && second != NONE) {
            return NONE;
        }
        return isWay(p, a, b) ? p.lateBy(a, b) : NONE;
    }

    public int stranded() {
        int found = 0;
        for (int i = 0; i < partyCount; i++) {
            if (parties[i].isStranded()) {
                found++;
            }
        }
        return found;
    }

    public int move() {
        if (stranded() > MOST_MOVED) {
            return NONE;
        }
        for (int i = 0; i < flightCount; i++) {
            flights[i].free = flights[i].seats - loadOf(flights[i]);
        }
        mover.begin();
        for (int size = MOST_SIZE; size >= 1; size--) {
            addStranded(size);
        }
        mover.findBest();
        return mover.giveWays();
    }

    public int undo() {
        int gone = 0;
        for (int i = 0; i < partyCount; i++) {
            Party p = parties[i];
            if (isOffFlight(p.first) || isOffFlight(p.second)) {
                p.takeWay(null, null);
                gone++;
            }
        }
        return gone;
    }

    private static boolean within(int v, int least, int most) {
        return v >= least && v <= most;
    }

    private static boolean has(long set, int i) {
        return (set >> i & 1) != 0;
    }

    private Flight flightAt(int number) {
        return number >= 0 && number < flightCount ? flights[number] : null;
    }

    private Party partyAt(int number) {
        return number >= 0 && number < partyCount ? parties[number] : null;
    }

    private static int numberOf(Flight f) {
        return f == null ? NONE : f.number;
    }

    private static boolean isOffFlight(Flight f) {
        return f != null && f.isOff;
    }

    private int setChange(int v) {
        if (!within(v, 0, MOST_CHANGE)) {
            return NONE;
        }
        int was = change;
        change = v;
        return was;
    }

    private int loadOf(Flight f) {
        int load = 0;
        for (int i = 0; i < partyCount; i++) {
            Party p = parties[i];
            if (p.fliesOn(f) || p.first == f || p.second == f) {
                load += p.size;
            }
        }
        return load;
    }

    private int overOf(Flight f) {
        int load = loadOf(f);
        return f.isOff ? load : Math.max(0, load - f.seats);
    }

    private int mustPeople(Flight f) {
        int people = 0;
        for (int i = 0; i < partyCount; i++) {
            if (parties[i].must && parties[i].fliesOn(f)) {
                people += parties[i].size;
            }
        }
        return people;
    }

    private int flyingPeople() {
        int people = 0;
        for (int i = 0; i < partyCount; i++) {
            if (parties[i].state == FLIES && !parties[i].own.isOff) {
                people += parties[i].size;
            }
        }
        return people;
    }

    private int peopleIn(int state) {
        int people = 0;
        for (int i = 0; i < partyCount; i++) {
            if (parties[i].state == state) {
                people += parties[i].size;
            }
        }
        return people;
    }

    private int peopleWithWay() {
        int people = 0;
        for (int i = 0; i < partyCount; i++) {
            if (parties[i].first != null) {
                people += parties[i].size;
            }
        }
        return people;
    }

    private int allClaims() {
        int coin = 0;
        for (int i = 0; i < partyCount; i++) {
            coin += claimOf(parties[i]);
        }
        return coin;
    }

    private int claimOf(Party p) {
        if (p.state != LEFT) {
            return p.coin * p.size;
        }
        int base = baseFee(p.own.miles);
        if (p.first == null) {
            return base * p.size;
        }
        int late = p.lateByWay();
        if (late < LATE_FOR_HALF) {
            return 0;
        }
        return (late < LATE_FOR_WHOLE ? base / 2 : base) * p.size;
    }

    private int baseFee(int miles) {
        if (miles <= NEAR_MILES) {
            return fees[0];
        }
        return miles <= MIDDLE_MILES ? fees[1] : fees[2];
    }

    /**
     * The set of bidders to buy, as its coin above MOST_PARTIES bits that name its parties; NONE if
     * all bidders are too few. The row holds the least such number for each exact sum of sizes, so
     * that 20 parties need 121 steps each and not a million sets.
     */
    private long cheapestDeal(Flight f, int over) {
        for (int sum = 0; sum < cheapest.length; sum++) {
            cheapest[sum] = NONE;
        }
        cheapest[0] = 0;
        int reach = 0;
        for (int i = 0; i < partyCount; i++) {
            Party p = parties[i];
            if (p.wouldGive(f) && reach + p.size < cheapest.length) {
                offerDeals(reach, p.size, ((long) p.bid * p.size << MOST_PARTIES) + (1L << i));
                reach += p.size;
            }
        }
        return leastDeal(over, reach);
    }

    private void offerDeals(int reach, int size, long more) {
        for (int sum = reach; sum >= 0; sum--) {
            if (cheapest[sum] >= 0) {
                long deal = cheapest[sum] + more;
                if (cheapest[sum + size] < 0 || deal < cheapest[sum + size]) {
                    cheapest[sum + size] = deal;
                }
            }
        }
    }

    private long leastDeal(int over, int reach) {
        long least = NONE;
        for (int sum = over; sum <= reach; sum++) {
            long deal = cheapest[sum];
            // Coin alone is compared: among equal coin the lesser sum, met first, stays.
            if (deal >= 0 && (least < 0 || coinOfDeal(deal) < coinOfDeal(least))) {
                least = deal;
            }
        }
        return least;
    }

    private static int coinOfDeal(long deal) {
        return (int) (deal >> MOST_PARTIES);
    }

    /**
     * The bidders, by bid and then by number, until their sizes make up for over, as bits; 0 if all
     * are too few. Any offer that brings enough of them forward takes these same ones.
     */
    private int lowestBidders(Flight f, int over) {
        int taken = 0;
        int people = 0;
        for (int turn = 0; turn < partyCount && people < over; turn++) {
            int next = nextBidder(f, taken);
            if (next == NONE) {
                return 0;
            }
            taken |= 1 << next;
            people += parties[next].size;
        }
        return people < over ? 0 : taken;
    }

    private int nextBidder(Flight f, int taken) {
        int next = NONE;
        for (int i = 0; i < partyCount; i++) {
            if (!has(taken, i) && parties[i].wouldGive(f)
                    && (next == NONE || parties[i].bid < parties[next].bid)) {
                next = i;
            }
        }
        return next;
    }

    private int highestBid(int taken) {
        int highest = 0;
        for (int i = 0; i < partyCount; i++) {
            if (has(taken, i)) {
                highest = Math.max(highest, parties[i].bid);
            }
        }
        return highest;
    }

    /** The first of v, v + s, v + 2s, .. that is not below the bid (s is 1 at least). */
    private static int firstOffer(int bid, int v, int s) {
        if (bid <= v || s < 1) {
            return v;
        }
        int rises = (bid - v + s - 1) / s;
        return v + rises * s;
    }

    private int leavablePeople(Flight f) {
        int people = 0;
        for (int i = 0; i < partyCount; i++) {
            if (!parties[i].must && parties[i].fliesOn(f)) {
                people += parties[i].size;
            }
        }
        return people;
    }

    private Party nextToLeave(Flight f) {
        Party next = null;
        for (int i = partyCount - 1; i >= 0; i--) {
            Party p = parties[i];
            if (!p.must && p.fliesOn(f) && (next == null || p.rank < next.rank)) {
                next = p;
            }
        }
        return next;
    }

    /** Whether first, with second behind it unless that is null, is a way of the party. */
    private boolean isWay(Party p, Flight first, Flight second) {
        Flight own = p.own;
        if (first == own || first.isOff || first.from != own.from || first.departs < own.departs) {
            return false;
        }
        if (second == null) {
            return first.to == own.to;
        }
        return !second.isOff && second.from == first.to && second.to == own.to
                && second.departs - first.arrives >= change;
    }

    private void addStranded(int size) {
        int turn = 0;
        for (int i = 0; i < partyCount; i++) {
            if (parties[i].isStranded()) {
                if (parties[i].size == size) {
                    mover.addParty(parties[i], turn);
                    addWays(parties[i]);
                }
                turn++;
            }
        }
    }

    /** Hands the ways of the party to the mover, the preferred of equally late ones first. */
    private void addWays(Party p) {
        for (int i = 0; i < flightCount; i++) {
            if (isWay(p, flights[i], null)) {
                mover.addWay(flights[i], null);
            }
            for (int j = 0; j < flightCount; j++) {
                if (isWay(p, flights[i], flights[j])) {
                    mover.addWay(flights[i], flights[j]);
                }
            }
        }
    }

    private static final class Flight {
        final int number;
        final int from;
        final int to;
        final int departs;
        final int arrives;
        final int seats;
        final int miles;
        boolean isOff = false;
        /** Seats not taken, below 0 if it is over; true only while move() runs. */
        int free = 0;

        Flight(int number, int from, int to, int departs, int arrives, int seats, int miles) {
            this.number = number;
            this.from = from;
            this.to = to;
            this.departs = departs;
            this.arrives = arrives;
            this.seats = seats;
            this.miles = miles;
        }
    }

    private static final class Party {
        final Flight own;
        final int size;
        final int rank;
        final int bid;
        final boolean must;
        int state = FLIES;
        int coin = 0;
        Flight first = null;
        Flight second = null;

        Party(Flight own, int size, int rank, int bid, boolean must) {
            this.own = own;
            this.size = size;
            this.rank = rank;
            this.bid = bid;
            this.must = must;
        }

        boolean fliesOn(Flight f) {
            return state == FLIES && own == f;
        }

        boolean wouldGive(Flight f) {
            return fliesOn(f) && bid != NONE && !must;
        }

        boolean isStranded() {
            return state != FLIES && first == null;
        }

        void giveUp(int newState, int forCoin) {
            state = newState;
            coin = forCoin;
        }

        void takeWay(Flight newFirst, Flight newSecond) {
            first = newFirst;
            second = newSecond;
        }

        void flyAgain() {
            giveUp(FLIES, 0);
            takeWay(null, null);
        }

        int lateBy(Flight one, Flight two) {
            int arrives = two == null ? one.arrives : two.arrives;
            return Math.max(0, arrives - own.arrives);
        }

        int lateByWay() {
            return first == null ? NONE : lateBy(first, second);
        }
    }

    /**
     * Finds the ways of the stranded parties. One number, a sum over the parties, says how good
     * their ways are: people above lateness above the order in which equal ones are preferred. No
     * two choices have the same sum, so they may be tried in the order that ends soonest: the
     * largest parties and the best ways first.
     */
    private static final class Mover {
        // Each of 7 other flights is a way alone, a first or a second one; 3 x 4 pairs are the most.
        private static final int MOST_WAYS = 12;
        // One person more outweighs all that MOST_MOVED parties can be late together.
        private static final int PERSON = MOST_MOVED * MOST_SIZE * (LAST_MINUTE + 1);
        // How much a party's way is preferred is a digit of so many bits; no way at all is digit 0.
        private static final int DIGIT_BITS = 4;
        private static final int NO_WAY_PLACE = 15;

        private final Party[] party = new Party[MOST_MOVED];
        private final int[] turn = new int[MOST_MOVED];
        private final int[] twin = new int[MOST_MOVED];
        private final int[] ways = new int[MOST_MOVED];
        private final int[] pick = new int[MOST_MOVED];
        private final int[] best = new int[MOST_MOVED];
        private final int[] peopleFrom = new int[MOST_MOVED + 1];
        private final Flight[] first = new Flight[MOST_MOVED * MOST_WAYS];
        private final Flight[] second = new Flight[MOST_MOVED * MOST_WAYS];
        private final int[] place = new int[MOST_MOVED * MOST_WAYS];
        private final long[] worth = new long[MOST_MOVED * MOST_WAYS];
        private long bestSum = 0;
        private int count = 0;

        void begin() {
            count = 0;
            bestSum = 0;
        }

        /** Adds a stranded party, before which turnOfIt others come by number. */
        void addParty(Party p, int turnOfIt) {
            if (count >= MOST_MOVED || turnOfIt < 0 || turnOfIt >= MOST_MOVED) {
                return;
            }
            party[count] = p;
            turn[count] = turnOfIt;
            twin[count] = lastTwin(p);
            ways[count] = 0;
            count++;
        }

        /** Adds a way of the party added last; of equally late ones the preferred one comes first. */
        void addWay(Flight one, Flight two) {
            int i = count - 1;
            if (i < 0 || ways[i] >= MOST_WAYS) {
                return;
            }
            int newPlace = ways[i];
            long newWorth = worthOf(i, party[i].lateBy(one, two), newPlace);
            int begin = i * MOST_WAYS;
            int slot = begin + newPlace;
            while (slot > begin && worth[slot - 1] < newWorth) {
                putWay(slot, first[slot - 1], second[slot - 1], place[slot - 1], worth[slot - 1]);
                slot--;
            }
            putWay(slot, one, two, newPlace, newWorth);
            ways[i]++;
        }

        void findBest() {
            peopleFrom[count] = 0;
            for (int i = count - 1; i >= 0; i--) {
                peopleFrom[i] = peopleFrom[i + 1] + party[i].size;
                best[i] = ways[i];
            }
            choose(0, 0);
        }

        /** Gives the parties the ways found: how many people have one. */
        int giveWays() {
            int people = 0;
            for (int i = 0; i < count; i++) {
                if (best[i] < ways[i]) {
                    int slot = i * MOST_WAYS + best[i];
                    party[i].takeWay(first[slot], second[slot]);
                    people += party[i].size;
                }
            }
            return people;
        }

        private int lastTwin(Party p) {
            for (int i = count - 1; i >= 0; i--) {
                if (party[i].own == p.own && party[i].size == p.size) {
                    return i;
                }
            }
            return NONE;
        }

        private long worthOf(int i, int late, int placeOfIt) {
            long gain = (long) party[i].size * (PERSON - late);
            long digit = NO_WAY_PLACE - placeOfIt;
            return (gain << DIGIT_BITS * MOST_MOVED) + (digit << DIGIT_BITS * (MOST_MOVED - 1 - turn[i]));
        }

        private void putWay(int slot, Flight one, Flight two, int newPlace, long newWorth) {
            first[slot] = one;
            second[slot] = two;
            place[slot] = newPlace;
            worth[slot] = newWorth;
        }

        private void choose(int i, long sum) {
            if (i >= count) {
                keepIfBetter(sum);
                return;
            }
            if (!mayBeat(i, sum)) {
                return;
            }
            int least = twinPlace(i);
            for (int w = 0; w < ways[i]; w++) {
                int slot = i * MOST_WAYS + w;
                if (place[slot] >= least && fits(i, slot) && !betterHasRoom(i, w)) {
                    pick[i] = w;
                    fill(slot, party[i].size);
                    choose(i + 1, sum + worth[slot]);
                    fill(slot, -party[i].size);
                }
            }
            if (!betterHasRoom(i, ways[i])) {
                pick[i] = ways[i];
                choose(i + 1, sum);
            }
        }

        /** Twins could change their ways with each other, so the later one never has a preferred one. */
        private int twinPlace(int i) {
            int t = twin[i];
            if (t == NONE) {
                return 0;
            }
            return pick[t] < ways[t] ? place[t * MOST_WAYS + pick[t]] : NO_WAY_PLACE;
        }

        private void keepIfBetter(long sum) {
            if (sum > bestSum) {
                bestSum = sum;
                for (int i = 0; i < count; i++) {
                    best[i] = pick[i];
                }
            }
        }

        /** Whether the best could be beaten if each party from i on had all free seats to itself. */
        private boolean mayBeat(int i, long sum) {
            long most = sum;
            for (int j = i; j < count; j++) {
                most += mostWorth(j);
            }
            return most > bestSum;
        }

        private long mostWorth(int i) {
            for (int w = 0; w < ways[i]; w++) {
                int slot = i * MOST_WAYS + w;
                if (fits(i, slot)) {
                    return worth[slot];
                }
            }
            return 0;
        }

        private boolean fits(int i, int slot) {
            int size = party[i].size;
            return first[slot].free >= size && (second[slot] == null || second[slot].free >= size);
        }

        private void fill(int slot, int size) {
            first[slot].free -= size;
            if (second[slot] != null) {
                second[slot].free -= size;
            }
        }

        /**
         * Whether a better way of party i can be had whatever the parties behind it do: then way w
         * (or none, if w is ways[i]) is not worth a try.
         */
        private boolean betterHasRoom(int i, int w) {
            for (int better = 0; better < w; better++) {
                int slot = i * MOST_WAYS + better;
                if (hasRoom(i, w, first[slot]) && (second[slot] == null || hasRoom(i, w, second[slot]))) {
                    return true;
                }
            }
            return false;
        }

        private boolean hasRoom(int i, int w, Flight f) {
            if (f.free >= peopleFrom[i]) {
                return true;
            }
            int slot = i * MOST_WAYS + w;
            return w < ways[i] && (f == first[slot] || f == second[slot]);
        }
    }
}
