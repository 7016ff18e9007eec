import java.util.Arrays;

/**
 * Sea cables between islands: their faults, the ships that mend them, and the traders who pay for
 * the cheapest way or are credited for an hour that is cut off or late.
 */
public final class CableChart {
    public static final int NONE = -1;
    public static final int IDLE = 0, SAILS = 1, SPLICES = 2, TESTS = 3;

    private static final int MOST_ISLANDS = 10;
    private static final int MOST_CABLES = 16;
    private static final int MOST_SPANS = 8;
    private static final int MOST_SHIPS = 4;
    private static final int MOST_TRADERS = 12;
    private static final int LAST_PLACE = 99;
    private static final int MOST_DELAY = 500;
    private static final int MOST_PRICE = 9999;
    private static final int MOST_SPEED = 20;
    private static final int MOST_TRADER_DELAY = 5000;
    private static final int MOST_CREDIT_OF_HOUR = 9999;
    private static final int MOST_CREDIT_IN_ALL = 1000000;
    private static final int MOST_HOURS = 500;
    private static final int SPLICE_HOURS = 6;
    private static final int TEST_HOURS = 2;

    private final Island[] islands = new Island[MOST_ISLANDS];
    private int islandCount = 0;
    private final Net net = new Net();
    private final Ship[] ships = new Ship[MOST_SHIPS];
    private int shipCount = 0;
    private final Trader[] traders = new Trader[MOST_TRADERS];
    private int traderCount = 0;
    /** Set by all that can change a way; the ways are found again when one is asked next. */
    private boolean waysAreStale = false;
    private int hour = 0;

    public CableChart() {
    }

    public int island(int x, int y) throws IllegalArgumentException, IllegalStateException {
        checkRange(x, 0, LAST_PLACE);
        checkRange(y, 0, LAST_PLACE);
        checkRoom(islandCount, MOST_ISLANDS);
        islands[islandCount] = new Island(x, y);
        islandCount++;
        return islandCount - 1;
    }

    public int cable(int island, int other, int spans, int delay, int price)
            throws IndexOutOfBoundsException, IllegalArgumentException, IllegalStateException {
        checkIndex(island, islandCount);
        checkIndex(other, islandCount);
        checkUnlike(island, other);
        checkRange(spans, 1, MOST_SPANS);
        checkRange(delay, 1, MOST_DELAY);
        checkRange(price, 0, MOST_PRICE);
        checkRoom(net.count, MOST_CABLES);
        waysAreStale = true;
        return net.lay(new Cable(island, other, spans, delay, price));
    }

    public int price(int cable, int price) throws IndexOutOfBoundsException, IllegalArgumentException {
        checkIndex(cable, net.count);
        checkRange(price, 0, MOST_PRICE);
        int before = net.cables[cable].price;
        net.cables[cable].price = price;
        waysAreStale = true;
        return before;
    }

    public int fault(int cable, int span) throws IndexOutOfBoundsException, IllegalStateException {
        checkSpan(cable, span);
        if (net.cables[cable].hasFaultAt(span)) {
            throw new IllegalStateException("the span has a fault");
        }
        waysAreStale = true;
        return net.addFault(cable, span);
    }

    public int ship(int island, int speed)
            throws IndexOutOfBoundsException, IllegalArgumentException, IllegalStateException {
        checkIndex(island, islandCount);
        checkRange(speed, 1, MOST_SPEED);
        checkRoom(shipCount, MOST_SHIPS);
        ships[shipCount] = new Ship(islands[island].x, islands[island].y, speed);
        shipCount++;
        return shipCount - 1;
    }

    public int send(int ship, int cable, int span) throws IndexOutOfBoundsException, IllegalStateException {
        checkIndex(ship, shipCount);
        checkSpan(cable, span);
        checkIdle(ships[ship]);
        Cable laid = net.cables[cable];
        if (!laid.hasFaultAt(span)) {
            throw new IllegalStateException("the span has no fault");
        }
        Island first = islands[laid.first];
        Island other = islands[laid.other];
        ships[ship].aimAt(cable, span);
        return setOff(ships[ship], laid.placeOfSpan(span, first.x, other.x),
                laid.placeOfSpan(span, first.y, other.y));
    }

    public int home(int ship, int island) throws IndexOutOfBoundsException, IllegalStateException {
        checkIndex(ship, shipCount);
        checkIndex(island, islandCount);
        checkIdle(ships[ship]);
        ships[ship].aimAt(NONE, NONE);
        return setOff(ships[ship], islands[island].x, islands[island].y);
    }

    public int trader(int from, int to, int delay, int cut, int late, int most)
            throws IndexOutOfBoundsException, IllegalArgumentException, IllegalStateException {
        checkIndex(from, islandCount);
        checkIndex(to, islandCount);
        checkUnlike(from, to);
        checkRange(delay, 1, MOST_TRADER_DELAY);
        checkRange(cut, 0, MOST_CREDIT_OF_HOUR);
        checkRange(late, 0, MOST_CREDIT_OF_HOUR);
        checkRange(most, 0, MOST_CREDIT_IN_ALL);
        checkRoom(traderCount, MOST_TRADERS);
        traders[traderCount] = new Trader(from, to, delay, cut, late, most);
        traderCount++;
        waysAreStale = true;
        return traderCount - 1;
    }

    public int pass(int hours) throws IllegalArgumentException {
        checkRange(hours, 1, MOST_HOURS);
        for (int passed = 0; passed < hours; passed++) {
            passHour();
        }
        return hour;
    }

    public boolean works(int cable) throws IndexOutOfBoundsException {
        checkIndex(cable, net.count);
        return net.cables[cable].isWorking();
    }

    public int faultAt(int rank) throws IndexOutOfBoundsException {
        if (rank < 0) {
            throw new IndexOutOfBoundsException("a rank is not below 0");
        }
        return net.faultRanked(rank);
    }

    public int shipOf(int ship, int what) throws IndexOutOfBoundsException, IllegalArgumentException {
        checkIndex(ship, shipCount);
        checkRange(what, 0, 4);
        Ship asked = ships[ship];
        switch (what) {
            case 0:
                return asked.state;
            case 1:
                return asked.x;
            case 2:
                return asked.y;
            case 3:
                return asked.hours;
            default:
                return asked.mended;
        }
    }

    public int way(int trader, int place) throws IndexOutOfBoundsException {
        checkIndex(trader, traderCount);
        if (place < 0) {
            throw new IndexOutOfBoundsException("a place is not below 0");
        }
        findStaleWays();
        return traders[trader].way.cableAt(place);
    }

    public int sum(int trader, int what) throws IndexOutOfBoundsException, IllegalArgumentException {
        checkIndex(trader, traderCount);
        checkRange(what, 0, 2);
        findStaleWays();
        Way asked = traders[trader].way;
        switch (what) {
            case 0:
                return asked.prices;
            case 1:
                return asked.delays;
            default:
                return asked.length;
        }
    }

    public int sumAnew(int trader) throws IndexOutOfBoundsException {
        checkIndex(trader, traderCount);
        return net.priceByRounds(traders[trader].from, traders[trader].to);
    }

    public long account(int trader, int what) throws IndexOutOfBoundsException, IllegalArgumentException {
        checkIndex(trader, traderCount);
        checkRange(what, 0, 3);
        Trader asked = traders[trader];
        switch (what) {
            case 0:
                return asked.paid;
            case 1:
                return asked.credits;
            case 2:
                return asked.cutHours;
            default:
                return asked.lateHours;
        }
    }

    public int reach(int island) throws IndexOutOfBoundsException {
        checkIndex(island, islandCount);
        return net.reachedFrom(island);
    }

    private static void checkIndex(int index, int count) {
        if (index < 0 || index >= count) {
            throw new IndexOutOfBoundsException("there is none of this number");
        }
    }

    private void checkSpan(int cable, int span) {
        checkIndex(cable, net.count);
        checkIndex(span, net.cables[cable].spans);
    }

    private static void checkRange(int value, int least, int most) {
        if (value < least || value > most) {
            throw new IllegalArgumentException("an argument is out of range");
        }
    }

    private static void checkUnlike(int island, int other) {
        if (island == other) {
            throw new IllegalArgumentException("both islands are the same");
        }
    }

    private static void checkRoom(int count, int most) {
        if (count >= most) {
            throw new IllegalStateException("there would be more than told");
        }
    }

    private static void checkIdle(Ship ship) {
        if (ship.state != IDLE) {
            throw new IllegalStateException("the ship is not idle");
        }
    }

    private void findStaleWays() {
        if (!waysAreStale) {
            return;
        }
        for (int i = 0; i < traderCount; i++) {
            net.findWay(traders[i].from, traders[i].to, traders[i].way);
        }
        waysAreStale = false;
    }

    private void passHour() {
        hour++;
        for (int i = 0; i < shipCount; i++) {
            workHour(ships[i]);
        }
        findStaleWays();
        for (int i = 0; i < traderCount; i++) {
            traders[i].settleHour();
        }
    }

    private void workHour(Ship ship) {
        if (ship.state == IDLE) {
            return;
        }
        ship.hours--;
        if (ship.hours == 0) {
            goOn(ship);
        }
    }

    private void goOn(Ship ship) {
        switch (ship.state) {
            case SAILS:
                arrive(ship);
                break;
            case SPLICES:
                ship.begin(TESTS, TEST_HOURS);
                break;
            default:
                mend(ship);
                break;
        }
    }

    private int setOff(Ship ship, int x, int y) {
        int hours = ship.hoursTo(x, y);
        ship.x = x;
        ship.y = y;
        ship.begin(SAILS, hours);
        if (hours == 0) {
            arrive(ship);
        }
        return hours;
    }

    private void arrive(Ship ship) {
        if (hasItsFault(ship)) {
            ship.begin(SPLICES, SPLICE_HOURS);
        } else {
            ship.begin(IDLE, 0);
        }
    }

    private void mend(Ship ship) {
        if (hasItsFault(ship)) {
            net.removeFault(ship.cable, ship.span);
            ship.mended++;
            waysAreStale = true;
        }
        ship.begin(IDLE, 0);
    }

    private boolean hasItsFault(Ship ship) {
        return ship.cable != NONE && net.cables[ship.cable].hasFaultAt(ship.span);
    }

    private static final class Island {
        private final int x;
        private final int y;

        Island(int x, int y) {
            this.x = x;
            this.y = y;
        }
    }

    private static final class Cable {
        private final int first;
        private final int other;
        private final int spans;
        private final int delay;
        private int price;
        /** The spans that have a fault, as a set. */
        private int faultySpans = 0;

        Cable(int first, int other, int spans, int delay, int price) {
            this.first = first;
            this.other = other;
            this.spans = spans;
            this.delay = delay;
            this.price = price;
        }

        boolean isWorking() {
            return faultySpans == 0;
        }

        boolean hasFaultAt(int span) {
            return (faultySpans >> span & 1) != 0;
        }

        /** To which island the cable leads from one; NONE if it does not end there or not work. */
        int leadsTo(int island) {
            if (faultySpans != 0) {
                return NONE;
            }
            if (island == first) {
                return other;
            }
            return island == other ? first : NONE;
        }

        /** One coordinate of the middle of a span, from that coordinate of both islands. */
        int placeOfSpan(int span, int from, int to) {
            return from + (2 * span + 1) * (to - from) / (2 * spans);
        }

        /**
         * Price, delay and one cable in one number. A way has at most 9 cables and a delay of at
         * most 4500, so no sum of a lesser part reaches the next one, and sums compare by prices,
         * then delays, then cables.
         */
        long cost() {
            return ((long) price << 17) + ((long) delay << 4) + 1;
        }
    }

    /** A row of cables from one island to another one. */
    private static final class Way {
        private final int[] row = new int[MOST_ISLANDS - 1];
        /** How many cables there are; this and both sums are NONE if there is no way. */
        private int length = NONE;
        private int prices = NONE;
        private int delays = NONE;

        void end() {
            length = NONE;
            prices = NONE;
            delays = NONE;
        }

        void start() {
            length = 0;
            prices = 0;
            delays = 0;
        }

        void add(int number, Cable cable) {
            if (length < 0 || length >= row.length) {
                return;
            }
            row[length] = number;
            length++;
            prices += cable.price;
            delays += cable.delay;
        }

        int cableAt(int place) {
            return place < length ? row[place] : NONE;
        }
    }

    /** The cables with their faults, and the ways that are found over them. */
    private static final class Net {
        /** More than the cost of any way, and low enough that a cable's cost can be added. */
        private static final long UNREACHED = 1L << 60;

        private final Cable[] cables = new Cable[MOST_CABLES];
        private int count = 0;
        /** 8 times the cable, and the span, of each fault, the oldest one first. */
        private final int[] faultsByAge = new int[MOST_CABLES * MOST_SPANS];
        private int faultCount = 0;
        private final long[] costs = new long[MOST_ISLANDS];
        private final int[] sums = new int[MOST_ISLANDS];

        int lay(Cable cable) {
            cables[count] = cable;
            count++;
            return count - 1;
        }

        int addFault(int cable, int span) {
            cables[cable].faultySpans |= 1 << span;
            faultsByAge[faultCount] = faultCode(cable, span);
            faultCount++;
            return faultCount;
        }

        void removeFault(int cable, int span) {
            int kept = 0;
            for (int i = 0; i < faultCount; i++) {
                if (faultsByAge[i] != faultCode(cable, span)) {
                    faultsByAge[kept] = faultsByAge[i];
                    kept++;
                }
            }
            faultCount = kept;
            cables[cable].faultySpans &= ~(1 << span);
        }

        int faultRanked(int rank) {
            return rank < faultCount ? faultsByAge[rank] : NONE;
        }

        private static int faultCode(int cable, int span) {
            return MOST_SPANS * cable + span;
        }

        /** The costs to the end fall along a best way, so at each island the lowest cable serves. */
        void findWay(int from, int to, Way way) {
            way.end();
            measureTo(to);
            if (costs[from] == UNREACHED) {
                return;
            }
            way.start();
            int here = from;
            for (int place = 0; place < MOST_ISLANDS && here != to; place++) {
                int next = lowestBestCable(here);
                if (next == NONE) {
                    return;
                }
                way.add(next, cables[next]);
                here = cables[next].leadsTo(here);
            }
        }

        /** Settles the islands by rising cost of the best way from them to the target. */
        private void measureTo(int target) {
            Arrays.fill(costs, UNREACHED);
            costs[target] = 0;
            int settled = 0;
            for (int round = 0; round < MOST_ISLANDS; round++) {
                int nearest = nearestBeside(settled);
                if (nearest == NONE) {
                    return;
                }
                settled |= 1 << nearest;
                spreadFrom(nearest);
            }
        }

        private int nearestBeside(int settled) {
            int nearest = NONE;
            long least = UNREACHED;
            for (int i = 0; i < MOST_ISLANDS; i++) {
                if ((settled >> i & 1) == 0 && costs[i] < least) {
                    nearest = i;
                    least = costs[i];
                }
            }
            return nearest;
        }

        private void spreadFrom(int island) {
            for (int i = 0; i < count; i++) {
                int beyond = cables[i].leadsTo(island);
                if (beyond != NONE) {
                    costs[beyond] = Math.min(costs[beyond], costs[island] + cables[i].cost());
                }
            }
        }

        private int lowestBestCable(int island) {
            for (int i = 0; i < count; i++) {
                int beyond = cables[i].leadsTo(island);
                if (beyond != NONE && costs[island] == costs[beyond] + cables[i].cost()) {
                    return i;
                }
            }
            return NONE;
        }

        /** Shares nothing with the costs above: what it answers is found a second time. */
        int priceByRounds(int from, int to) {
            Arrays.fill(sums, NONE);
            sums[from] = 0;
            for (int round = 1; round < MOST_ISLANDS; round++) {
                for (int i = 0; i < count; i++) {
                    if (cables[i].isWorking()) {
                        lowerSum(cables[i].first, cables[i].other, cables[i].price);
                        lowerSum(cables[i].other, cables[i].first, cables[i].price);
                    }
                }
            }
            return sums[to];
        }

        private void lowerSum(int near, int far, int price) {
            if (sums[near] != NONE && (sums[far] == NONE || sums[near] + price < sums[far])) {
                sums[far] = sums[near] + price;
            }
        }

        int reachedFrom(int island) {
            int reached = 1 << island;
            for (int round = 1; round < MOST_ISLANDS; round++) {
                for (int i = 0; i < count; i++) {
                    int ends = 1 << cables[i].first | 1 << cables[i].other;
                    if (cables[i].isWorking() && (reached & ends) != 0) {
                        reached |= ends;
                    }
                }
            }
            return reached;
        }
    }

    private static final class Ship {
        private final int speed;
        /** While it sails, the place to which it does. */
        private int x;
        private int y;
        private int state = IDLE;
        private int hours = 0;
        /** The span that it was sent to; NONE if it was sent to an island. */
        private int cable = NONE;
        private int span = NONE;
        private int mended = 0;

        Ship(int x, int y, int speed) {
            this.x = x;
            this.y = y;
            this.speed = speed;
        }

        void aimAt(int cable, int span) {
            this.cable = cable;
            this.span = span;
        }

        void begin(int state, int hours) {
            this.state = state;
            this.hours = hours;
        }

        int hoursTo(int toX, int toY) {
            int apart = Math.abs(toX - x) + Math.abs(toY - y);
            return (apart + speed - 1) / speed;
        }
    }

    private static final class Trader {
        private final int from;
        private final int to;
        private final int mostDelay;
        private final int cutCredit;
        private final int lateCredit;
        private final int mostCredit;
        private final Way way = new Way();
        private long paid = 0;
        private int credits = 0;
        private int cutHours = 0;
        private int lateHours = 0;

        Trader(int from, int to, int delay, int cut, int late, int most) {
            this.from = from;
            this.to = to;
            this.mostDelay = delay;
            this.cutCredit = cut;
            this.lateCredit = late;
            this.mostCredit = most;
        }

        void settleHour() {
            if (way.length == NONE) {
                cutHours++;
                credit(cutCredit);
                return;
            }
            paid += way.prices;
            if (way.delays > mostDelay) {
                lateHours++;
                credit(lateCredit);
            }
        }

        private void credit(int amount) {
            credits = Math.min(mostCredit, credits + amount);
        }
    }
}
