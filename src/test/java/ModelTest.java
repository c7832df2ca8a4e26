import java.util.ArrayList;
import java.util.Arrays;
import java.util.List;
import java.util.NoSuchElementException;
import java.util.Random;

/**
 * Many runs of calls, the same ones each time, on the class and on a slow model that reads the
 * document word for word: it tries every set of bidders, every offer and every choice of ways.
 */
public final class ModelTest {
    private static final int RUNS = 8000;
    // With two questions behind each call and all of them at the end a run stays below 512 calls.
    private static final int CALLS = 100;
    private static final int QUESTIONS = 2;
    private static final int KNOTS = 600;
    private static final int THROWN = -77;
    private static final int[] OFTEN = {0, 1, 1, 2, 3, 4, 5, 6, 7, 8, 9, 10, 10, 11, 11, 11, 12, 12, 12, 13, 14, 14, 14, 14, 15, 15};

    public static void main(String[] args) {
        int[] answered = new int[16];
        for (int run = 0; run < RUNS; run++) {
            Random random = new Random(run);
            Run one = new Run(random);
            String wrong = null;
            for (int call = 0; call < CALLS && wrong == null; call++) {
                wrong = one.step(answered);
            }
            if (wrong == null) {
                wrong = one.sameWhole();
            }
            if (wrong != null) {
                System.out.println("run " + run + ": " + one.told + wrong);
                System.exit(1);
            }
        }
        for (int run = 0; run < KNOTS; run++) {
            String wrong = knot(new Random(run));
            if (wrong != null) {
                System.out.println("knot " + run + ": " + wrong);
                System.exit(1);
            }
        }
        for (int kind = 0; kind < answered.length; kind++) {
            if (answered[kind] < RUNS / 16) {
                System.out.println("call " + kind + " answered above 0 only " + answered[kind] + " times");
                System.exit(1);
            }
        }
    }

    /** Six parties to be moved by seats that are just enough, or not quite. */
    private static String knot(Random random) {
        Run one = new Run(random);
        int owns = 1 + random.nextInt(2);
        for (int f = 0; f < 8; f++) {
            one.made = f + 1;
            int[] flight = one.knottedFlight();
            one.x.flight(flight[0], flight[1], flight[2], flight[3], flight[4], flight[5]);
            one.m.flight(flight);
        }
        for (int p = 0; p < 6; p++) {
            int[] party = {random.nextInt(owns), 1 + random.nextInt(6), 0, -1};
            one.x.party(party[0], party[1], party[2], party[3], false);
            one.m.party(party, false);
        }
        for (int f = 0; f < owns; f++) {
            one.x.off(f, true);
            one.m.off(f, true);
            one.x.leave(f);
            one.m.leave(f);
            boolean is = random.nextBoolean();
            one.x.off(f, is);
            one.m.off(f, is);
        }
        int got = one.x.move();
        int due = one.m.move();
        return got == due ? one.sameWhole() : "move answered " + got + ", due is " + due;
    }

    /** One run: the class and the model side by side. */
    private static final class Run {
        final Random random;
        final TooMany x = new TooMany();
        final Model m = new Model();
        final StringBuilder told = new StringBuilder();
        final int cities;
        final int parties;
        final boolean roomy;
        final boolean knotted;
        int made = 0;

        Run(Random random) {
            this.random = random;
            cities = 2 + random.nextInt(3);
            parties = 4 + random.nextInt(17);
            roomy = random.nextInt(3) == 0;
            knotted = random.nextInt(4) != 0;
        }

        private int upTo(int most) {
            return random.nextInt(most + 1);
        }

        /** Mostly a number from least to most, now and then one beside them or far off. */
        private int about(int least, int most) {
            int dice = random.nextInt(60);
            if (dice == 0) {
                return least - 1;
            }
            if (dice == 1) {
                return most + 1;
            }
            if (dice == 2) {
                return random.nextInt();
            }
            return least + random.nextInt(Math.max(1, most - least + 1));
        }

        /** Half the time one of the first two, where most parties are. */
        private int flightNumber() {
            return random.nextBoolean() ? upTo(1) : about(0, m.flights.size() - 1);
        }

        private int partyNumber() {
            return about(0, m.parties.size() - 1);
        }

        String step(int[] answered) {
            int kind;
            if (made < 8) {
                kind = 0;
            } else if (made < 8 + parties) {
                kind = 2;
            } else {
                kind = OFTEN[random.nextInt(OFTEN.length)];
            }
            made++;
            String wrong = call(kind, answered);
            for (int n = 0; n < QUESTIONS && wrong == null; n++) {
                wrong = question();
            }
            return wrong;
        }

        private String question() {
            if (m.parties.isEmpty()) {
                return null;
            }
            return random.nextInt(4) == 0 ? sameFlight(upTo(m.flights.size() - 1), upTo(4))
                : sameParty(upTo(m.parties.size() - 1), upTo(7));
        }

        private String call(int kind, int[] answered) {
            int[] a = arguments(kind);
            boolean b = random.nextBoolean();
            int got = askClass(kind, a, b);
            int due = askModel(kind, a, b);
            told.append(kind).append(Arrays.toString(a)).append(b).append("=").append(got).append("; ");
            if (got > 0) {
                answered[kind]++;
            }
            return got == due ? null : "answered " + got + ", due is " + due;
        }

        private int[] arguments(int kind) {
            switch (kind) {
                case 0: return knotted ? knottedFlight() : anyFlight();
                case 1: return new int[] {flightNumber()};
                case 2: return new int[] {random.nextInt(3) == 0 ? flightNumber() : upTo(1), about(1, 6), about(0, 9),
                    random.nextInt(5) == 0 ? -1 : random.nextBoolean() ? about(0, 999) : 10 * upTo(4)};
                case 3: return random.nextBoolean() ? new int[] {0, about(0, 300)} : new int[] {about(1, 3), about(0, 9999)};
                case 4: return new int[] {flightNumber(), about(0, 4)};
                case 5: return new int[] {partyNumber(), about(0, 7)};
                case 6: return new int[] {about(0, 6)};
                case 9: return new int[] {flightNumber(), about(0, 999), random.nextBoolean() ? about(1, 999) : about(1, 30)};
                case 11: return new int[] {partyNumber()};
                case 12: return new int[] {partyNumber(), flightNumber(), random.nextBoolean() ? -1 : flightNumber()};
                default: return new int[] {flightNumber()};
            }
        }

        private int seats() {
            return roomy || knotted && made <= 2 ? about(8, 40) : about(1, 9);
        }

        private int[] anyFlight() {
            int departs = about(0, 400);
            return new int[] {about(0, cities - 1), about(0, cities - 1), departs, departs + about(1, 300), seats(), about(1, 5000)};
        }

        /** Flights that are ways of each other, alone or by a city between, often equally late. */
        private int[] knottedFlight() {
            int late = random.nextBoolean() ? 10 * upTo(2) : upTo(400);
            switch (made <= 2 ? 0 : random.nextInt(5)) {
                case 0: return new int[] {0, 1, 100 + (made == 1 ? 0 : upTo(20)), 300 + late, seats(), about(1, 5000)};
                case 1:
                case 2: return new int[] {0, 2, 100 + upTo(20), 130 + 10 * upTo(3), seats(), about(1, 5000)};
                default: return new int[] {2, 1, 190 + 10 * upTo(3), 300 + late, seats(), about(1, 5000)};
            }
        }

        private int askClass(int kind, int[] a, boolean b) {
            switch (kind) {
                case 0: return x.flight(a[0], a[1], a[2], a[3], a[4], a[5]);
                case 1: return x.off(a[0], b) ? 1 : 0;
                case 2: return x.party(a[0], a[1], a[2], a[3], b && a[1] % 3 == 0);
                case 3: return x.set(a[0], a[1]);
                case 4: return x.told(a[0], a[1]);
                case 5: return thrownOr(a[0], a[1]);
                case 6: return x.count(a[0]);
                case 7: return x.cost(a[0]);
                case 8: return x.buy(a[0]);
                case 9: return x.rounds(a[0], a[1], a[2]);
                case 10: return x.leave(a[0]);
                case 11: return x.back(a[0]) ? 1 : 0;
                case 12: return x.late(a[0], a[1], a[2]);
                case 13: return x.stranded();
                case 14: return x.move();
                default: return x.undo();
            }
        }

        private int thrownOr(int party, int what) {
            try {
                return x.of(party, what);
            } catch (NoSuchElementException e) {
                return THROWN;
            }
        }

        private int askModel(int kind, int[] a, boolean b) {
            switch (kind) {
                case 0: return m.flight(a);
                case 1: return m.off(a[0], b);
                case 2: return m.party(a, b && a[1] % 3 == 0);
                case 3: return m.set(a[0], a[1]);
                case 4: return m.told(a[0], a[1]);
                case 5: return m.of(a[0], a[1]);
                case 6: return m.count(a[0]);
                case 7: return m.cost(a[0]);
                case 8: return m.buy(a[0]);
                case 9: return m.rounds(a[0], a[1], a[2]);
                case 10: return m.leave(a[0]);
                case 11: return m.back(a[0]);
                case 12: return m.late(a[0], a[1], a[2]);
                case 13: return m.stranded().size();
                case 14: return m.move();
                default: return m.undo();
            }
        }

        private String sameParty(int p, int what) {
            int got = thrownOr(p, what);
            int due = m.of(p, what);
            return got == due ? null : "then of(" + p + ", " + what + ") answered " + got + ", due is " + due;
        }

        private String sameFlight(int f, int what) {
            int got = x.told(f, what);
            int due = m.told(f, what);
            return got == due ? null : "then told(" + f + ", " + what + ") answered " + got + ", due is " + due;
        }

        private String sameWhole() {
            String wrong = null;
            for (int p = 0; p < m.parties.size(); p++) {
                for (int what = 0; what < 8 && wrong == null; what++) {
                    wrong = sameParty(p, what);
                }
            }
            for (int f = 0; f < m.flights.size(); f++) {
                for (int what = 0; what < 5 && wrong == null; what++) {
                    wrong = sameFlight(f, what);
                }
            }
            return wrong;
        }
    }

    /** The document, word for word. */
    private static final class Model {
        final List<int[]> flights = new ArrayList<>();
        final List<int[]> parties = new ArrayList<>();
        final boolean[] off = new boolean[8];
        final boolean[] must = new boolean[20];
        final int[] state = new int[20];
        final int[] coin = new int[20];
        final int[][] way = new int[20][];
        final int[] fee = {250, 400, 600};
        int change = 45;

        private static final int FROM = 0;
        private static final int TO = 1;
        private static final int DEPARTS = 2;
        private static final int ARRIVES = 3;
        private static final int SEATS = 4;
        private static final int MILES = 5;
        private static final int FLIGHT = 0;
        private static final int SIZE = 1;
        private static final int RANK = 2;
        private static final int BID = 3;

        private boolean noFlight(int f) {
            return f < 0 || f >= flights.size();
        }

        private boolean noParty(int p) {
            return p < 0 || p >= parties.size();
        }

        private int size(int p) {
            return parties.get(p)[SIZE];
        }

        private int own(int p) {
            return parties.get(p)[FLIGHT];
        }

        int flight(int[] a) {
            boolean fine = flights.size() < 8 && a[FROM] >= 0 && a[FROM] <= 7 && a[TO] >= 0 && a[TO] <= 7 && a[FROM] != a[TO]
                && a[DEPARTS] >= 0 && a[ARRIVES] >= 0 && a[DEPARTS] <= 9999 && a[ARRIVES] <= 9999 && a[DEPARTS] < a[ARRIVES]
                && a[SEATS] >= 1 && a[SEATS] <= 40 && a[MILES] >= 1 && a[MILES] <= 9999;
            if (!fine) {
                return -1;
            }
            flights.add(a.clone());
            return flights.size() - 1;
        }

        int off(int f, boolean is) {
            if (noFlight(f)) {
                return 0;
            }
            off[f] = is;
            return 1;
        }

        int party(int[] a, boolean isMust) {
            boolean fine = parties.size() < 20 && !noFlight(a[FLIGHT]) && a[SIZE] >= 1 && a[SIZE] <= 6
                && a[RANK] >= 0 && a[RANK] <= 9 && a[BID] >= -1 && a[BID] <= 999;
            if (!fine) {
                return -1;
            }
            must[parties.size()] = isMust;
            parties.add(a.clone());
            return parties.size() - 1;
        }

        int set(int what, int v) {
            int was = -1;
            if (what == 0 && v >= 0 && v <= 300) {
                was = change;
                change = v;
            }
            if (what >= 1 && what <= 3 && v >= 0 && v <= 9999) {
                was = fee[what - 1];
                fee[what - 1] = v;
            }
            return was;
        }

        private int load(int f) {
            int load = 0;
            for (int p = 0; p < parties.size(); p++) {
                if (state[p] == 0 && own(p) == f) {
                    load += size(p);
                }
                if (way[p] != null && (way[p][0] == f || way[p][1] == f)) {
                    load += size(p);
                }
            }
            return load;
        }

        private int over(int f) {
            return off[f] ? load(f) : Math.max(0, load(f) - flights.get(f)[SEATS]);
        }

        int told(int f, int what) {
            if (noFlight(f) || what < 0 || what > 4) {
                return -1;
            }
            int mustFly = 0;
            for (int p = 0; p < parties.size(); p++) {
                mustFly += state[p] == 0 && own(p) == f && must[p] ? size(p) : 0;
            }
            return new int[] {load(f), over(f), flights.get(f)[SEATS], off[f] ? 1 : 0, mustFly}[what];
        }

        int of(int p, int what) {
            if (noParty(p) || what < 0 || what > 7) {
                return THROWN;
            }
            int first = way[p] == null ? -1 : way[p][0];
            int second = way[p] == null ? -1 : way[p][1];
            int late = way[p] == null ? -1 : lateBy(p, first, second);
            return new int[] {state[p], own(p), size(p), coin[p], first, second, late, claim(p)}[what];
        }

        private int lateBy(int p, int first, int second) {
            int last = second == -1 ? first : second;
            return Math.max(0, flights.get(last)[ARRIVES] - flights.get(own(p))[ARRIVES]);
        }

        private int claim(int p) {
            if (state[p] == 0) {
                return 0;
            }
            if (state[p] == 1) {
                return coin[p] * size(p);
            }
            int miles = flights.get(own(p))[MILES];
            int base = miles <= 1500 ? fee[0] : miles <= 3500 ? fee[1] : fee[2];
            if (way[p] != null) {
                int late = lateBy(p, way[p][0], way[p][1]);
                base = late < 120 ? 0 : late < 240 ? base / 2 : base;
            }
            return base * size(p);
        }

        int count(int what) {
            if (what < 0 || what > 6) {
                return -1;
            }
            int[] all = {flights.size(), parties.size(), 0, 0, 0, 0, 0};
            for (int p = 0; p < parties.size(); p++) {
                all[2] += state[p] == 0 && !off[own(p)] ? size(p) : 0;
                all[3] += state[p] == 1 ? size(p) : 0;
                all[4] += state[p] == 2 ? size(p) : 0;
                all[5] += state[p] != 0 && way[p] != null ? size(p) : 0;
                all[6] += claim(p);
            }
            return all[what];
        }

        private List<Integer> bidders(int f) {
            List<Integer> found = new ArrayList<>();
            for (int p = 0; p < parties.size(); p++) {
                if (own(p) == f && state[p] == 0 && parties.get(p)[BID] != -1 && !must[p]) {
                    found.add(p);
                }
            }
            return found;
        }

        /** Coin, sizes and bits of the best set; null if there is none. */
        private long[] bought(int f) {
            List<Integer> bidders = bidders(f);
            long[] best = null;
            for (int set = 0; set < 1 << bidders.size(); set++) {
                long[] deal = new long[3];
                for (int i = 0; i < bidders.size(); i++) {
                    if ((set >> i & 1) != 0) {
                        int p = bidders.get(i);
                        deal[0] += parties.get(p)[BID] * size(p);
                        deal[1] += size(p);
                        deal[2] |= 1L << p;
                    }
                }
                if (deal[1] >= over(f) && (best == null || Arrays.compare(deal, best) < 0)) {
                    best = deal;
                }
            }
            return best;
        }

        int cost(int f) {
            if (noFlight(f)) {
                return -1;
            }
            long[] best = bought(f);
            return best == null ? -2 : (int) best[0];
        }

        int buy(int f) {
            int cost = cost(f);
            if (cost >= 0) {
                long bits = bought(f)[2];
                for (int p = 0; p < parties.size(); p++) {
                    if ((bits >> p & 1) != 0) {
                        state[p] = 1;
                        coin[p] = parties.get(p)[BID];
                    }
                }
            }
            return cost;
        }

        int rounds(int f, int v, int s) {
            if (noFlight(f) || v < 0 || v > 999 || s < 1 || s > 999) {
                return -1;
            }
            if (over(f) == 0) {
                return v;
            }
            for (int offer = v; offer <= 999; offer += s) {
                List<Integer> forward = new ArrayList<>();
                int people = 0;
                for (int p : bidders(f)) {
                    if (parties.get(p)[BID] <= offer) {
                        forward.add(p);
                        people += size(p);
                    }
                }
                if (people >= over(f)) {
                    forward.sort((p, q) -> parties.get(p)[BID] - parties.get(q)[BID]);
                    for (int i = 0; over(f) > 0; i++) {
                        state[forward.get(i)] = 1;
                        coin[forward.get(i)] = offer;
                    }
                    return offer;
                }
            }
            return -2;
        }

        int leave(int f) {
            if (noFlight(f)) {
                return -1;
            }
            int[] ahead = state.clone();
            int people = 0;
            while (over(f) > 0) {
                int least = -1;
                for (int p = 0; p < parties.size(); p++) {
                    if (own(p) == f && state[p] == 0 && !must[p] && (least < 0 || parties.get(p)[RANK] <= parties.get(least)[RANK])) {
                        least = p;
                    }
                }
                if (least < 0) {
                    System.arraycopy(ahead, 0, state, 0, state.length);
                    return -2;
                }
                state[least] = 2;
                people += size(least);
            }
            return people;
        }

        int back(int p) {
            if (noParty(p) || state[p] == 0) {
                return 0;
            }
            int wasState = state[p];
            int[] wasWay = way[p];
            state[p] = 0;
            way[p] = null;
            if (over(own(p)) > 0) {
                state[p] = wasState;
                way[p] = wasWay;
                return 0;
            }
            coin[p] = 0;
            return 1;
        }

        int late(int p, int first, int second) {
            if (noParty(p) || noFlight(first) || second != -1 && noFlight(second)) {
                return -1;
            }
            int[] own = flights.get(own(p));
            int[] one = flights.get(first);
            int[] last = second == -1 ? one : flights.get(second);
            boolean is = first != own(p) && second != own(p) && !off[first] && one[FROM] == own[FROM] && last[TO] == own[TO]
                && one[DEPARTS] >= own[DEPARTS];
            if (second != -1) {
                is = is && !off[second] && last[FROM] == one[TO] && last[DEPARTS] >= one[ARRIVES] + change;
            }
            return is ? lateBy(p, first, second) : -1;
        }

        List<Integer> stranded() {
            List<Integer> found = new ArrayList<>();
            for (int p = 0; p < parties.size(); p++) {
                if (state[p] != 0 && way[p] == null) {
                    found.add(p);
                }
            }
            return found;
        }

        private int[] bestSum;
        private int[][] bestWays;

        int move() {
            List<Integer> moved = stranded();
            if (moved.size() > 6) {
                return -1;
            }
            bestSum = null;
            int[] loads = new int[flights.size()];
            int[] most = new int[flights.size()];
            for (int f = 0; f < loads.length; f++) {
                loads[f] = load(f);
                most[f] = Math.max(loads[f], flights.get(f)[SEATS]);
            }
            tryAll(moved, 0, new int[moved.size()][], loads, most);
            for (int i = 0; i < moved.size(); i++) {
                way[moved.get(i)] = bestWays[i];
            }
            return bestSum[0];
        }

        private void tryAll(List<Integer> moved, int i, int[][] chosen, int[] loads, int[] most) {
            for (int f = 0; f < loads.length; f++) {
                if (loads[f] > most[f]) {
                    return;
                }
            }
            if (i == moved.size()) {
                compare(moved, chosen);
                return;
            }
            int p = moved.get(i);
            for (int first = 0; first < loads.length; first++) {
                for (int second = -1; second < loads.length; second++) {
                    if (late(p, first, second) != -1) {
                        chosen[i] = new int[] {first, second};
                        loads[first] += size(p);
                        if (second >= 0) {
                            loads[second] += size(p);
                        }
                        tryAll(moved, i + 1, chosen, loads, most);
                        loads[first] -= size(p);
                        if (second >= 0) {
                            loads[second] -= size(p);
                        }
                    }
                }
            }
            chosen[i] = null;
            tryAll(moved, i + 1, chosen, loads, most);
        }

        private void compare(List<Integer> moved, int[][] chosen) {
            int[] sum = new int[2];
            for (int i = 0; i < chosen.length; i++) {
                if (chosen[i] != null) {
                    int p = moved.get(i);
                    sum[0] += size(p);
                    sum[1] += size(p) * lateBy(p, chosen[i][0], chosen[i][1]);
                }
            }
            boolean better = bestSum == null || sum[0] > bestSum[0] || sum[0] == bestSum[0] && sum[1] < bestSum[1]
                || Arrays.equals(sum, bestSum) && comesAhead(chosen);
            if (better) {
                bestSum = sum;
                bestWays = chosen.clone();
            }
        }

        private boolean comesAhead(int[][] chosen) {
            for (int i = 0; i < chosen.length; i++) {
                int[] mine = chosen[i] == null ? new int[] {99, 99} : chosen[i];
                int[] best = bestWays[i] == null ? new int[] {99, 99} : bestWays[i];
                if (!Arrays.equals(mine, best)) {
                    return Arrays.compare(mine, best) < 0;
                }
            }
            return false;
        }

        int undo() {
            int gone = 0;
            for (int p = 0; p < parties.size(); p++) {
                if (way[p] != null && (off[way[p][0]] || way[p][1] >= 0 && off[way[p][1]])) {
                    way[p] = null;
                    gone++;
                }
            }
            return gone;
        }
    }
}
