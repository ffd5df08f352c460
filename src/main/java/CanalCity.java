/** A city of canals: lots of marsh that are drained, dug out and built on, month by month. */
public final class CanalCity {
    private static final int SIDE = 8;
    private static final int LOTS = 64;
    private static final int SIDES_OF_A_LOT = 4;
    private static final int GATE_X = 3;
    private static final int SEA_GATE = 3;

    private static final int OUTSIDE = -1;
    private static final int MARSH = 0;
    private static final int CANAL = 1;
    private static final int DRAINED = 2;
    private static final int HOUSES = 3;
    private static final int WORKSHOP = 4;
    private static final int MARKET = 5;
    private static final int BRIDGE = 6;

    private static final int COINS_AT_FIRST = 60;
    private static final int COST_OF_DRAINING = 2;
    private static final int COST_OF_DIGGING = 3;
    private static final int COST_OF_HOUSES = 4;
    private static final int COST_OF_A_WORKSHOP = 6;
    private static final int COST_OF_A_MARKET = 5;
    private static final int COST_OF_A_BRIDGE = 7;

    private static final int MOST_MONTHS = 60;
    private static final int LAST_OF_LOT = 5;
    private static final int LAST_OF_COUNT = 12;
    private static final int FIRST_KIND_OF_COUNT = 2;
    private static final int COMPLAINTS_TO_LEAVE = 4;
    private static final int MARSH_TO_SINK = 3;

    private final City now;
    // Made once and overwritten by each question of what would be, so that asking makes no objects.
    private final City trial;

    public CanalCity() {
        now = new City();
        trial = new City();
    }

    // ---- building

    public int drain(int x, int y) throws IndexOutOfBoundsException, IllegalStateException {
        int place = checkedNumber(x, y);
        if (now.kinds[place] != MARSH) {
            throw new IllegalStateException("only marsh is drained");
        }
        checkCoins(COST_OF_DRAINING);
        now.buy(place, DRAINED, COST_OF_DRAINING);
        return now.coins;
    }

    public int dig(int x, int y) throws IndexOutOfBoundsException, IllegalStateException {
        int place = checkedNumber(x, y);
        int kind = now.kinds[place];
        if (kind != MARSH && kind != DRAINED) {
            throw new IllegalStateException("only marsh and drained lots are dug out");
        }
        checkCoins(COST_OF_DIGGING);
        now.buy(place, CANAL, COST_OF_DIGGING);
        return now.coins;
    }

    public int build(int x, int y, int kind)
            throws IndexOutOfBoundsException, IllegalArgumentException, IllegalStateException {
        int place = checkedNumber(x, y);
        checkBuilding(kind);
        checkDrained(place);
        int cost = costOf(kind);
        checkCoins(cost);
        now.buy(place, kind, cost);
        return now.coins;
    }

    public int bridge(int x, int y) throws IndexOutOfBoundsException, IllegalStateException {
        int place = checkedNumber(x, y);
        if (now.kinds[place] != CANAL) {
            throw new IllegalStateException("a bridge needs a canal without one");
        }
        checkCoins(COST_OF_A_BRIDGE);
        now.buy(place, BRIDGE, COST_OF_A_BRIDGE);
        return now.lotsOfQuarter(place);
    }

    public int raze(int x, int y) throws IndexOutOfBoundsException, IllegalStateException {
        int place = checkedNumber(x, y);
        int before = now.kinds[place];
        if (before < HOUSES || before > BRIDGE) {
            throw new IllegalStateException("nothing is built there");
        }
        now.change(place, before == BRIDGE ? CANAL : DRAINED);
        return before;
    }

    // ---- what is there

    public int lot(int x, int y, int what) throws IndexOutOfBoundsException {
        int place = checkedNumber(x, y);
        if (what < 0 || what > LAST_OF_LOT) {
            throw new IndexOutOfBoundsException("what is 0 to 5");
        }
        return now.factOf(place, what);
    }

    public int count(int what) throws IndexOutOfBoundsException {
        if (what < 0 || what > LAST_OF_COUNT) {
            throw new IndexOutOfBoundsException("what is 0 to 12");
        }
        return now.total(what);
    }

    public int walk(int a, int b) throws IndexOutOfBoundsException, IllegalStateException {
        checkNumber(a);
        checkNumber(b);
        if (!isLand(now.kinds[a]) || !isLand(now.kinds[b])) {
            throw new IllegalStateException("both lots must be land");
        }
        return now.stepsOnFoot(a, b);
    }

    public int sail(int lot) throws IndexOutOfBoundsException, IllegalStateException {
        checkNumber(lot);
        if (!isWater(now.kinds[lot])) {
            throw new IllegalStateException("the lot must be water");
        }
        return now.boatSteps[lot];
    }

    // ---- months and what would be

    public int pass(int months) throws IllegalArgumentException {
        checkMonths(months);
        return now.live(months);
    }

    public int foresee(int months, int what) throws IllegalArgumentException, IndexOutOfBoundsException {
        checkMonths(months);
        if (what < 1 || what > LAST_OF_COUNT) {
            throw new IndexOutOfBoundsException("what is 1 to 12");
        }
        trial.become(now);
        trial.survey();
        trial.live(months);
        return trial.total(what);
    }

    public int would(int x, int y, int kind)
            throws IndexOutOfBoundsException, IllegalArgumentException, IllegalStateException {
        int place = checkedNumber(x, y);
        checkBuilding(kind);
        checkDrained(place);
        return duesWith(place, kind) - now.duesOfAll();
    }

    public int best(int kind) throws IllegalArgumentException {
        checkBuilding(kind);
        int found = -1;
        int greatest = 0;
        for (int place = 0; place < LOTS; place++) {
            if (now.kinds[place] == DRAINED) {
                int dues = duesWith(place, kind);
                if (found < 0 || dues > greatest) {
                    found = place;
                    greatest = dues;
                }
            }
        }
        return found;
    }

    public double mean() {
        int houses = now.lotsOfKind(HOUSES);
        if (houses == 0) {
            return 0;
        }
        return (double) now.complaintsOfAll() / houses;
    }

    public long digest() {
        long d = 1409;
        for (int what = 0; what <= LAST_OF_COUNT; what++) {
            d = d * 31 + now.total(what);
        }
        for (int place = 0; place < LOTS; place++) {
            for (int what = 0; what <= LAST_OF_LOT; what++) {
                d = d * 31 + now.factOf(place, what);
            }
        }
        return d;
    }

    private int duesWith(int place, int kind) {
        trial.become(now);
        trial.change(place, kind);
        return trial.duesOfAll();
    }

    // ---- what the calls refuse

    private static int checkedNumber(int x, int y) {
        if (x < 0 || x >= SIDE || y < 0 || y >= SIDE) {
            throw new IndexOutOfBoundsException("x and y are 0 to 7");
        }
        return SIDE * y + x;
    }

    private static void checkNumber(int place) {
        if (!isLot(place)) {
            throw new IndexOutOfBoundsException("a lot is 0 to 63");
        }
    }

    private static void checkBuilding(int kind) {
        if (kind < HOUSES || kind > MARKET) {
            throw new IllegalArgumentException("kind is 3 to 5");
        }
    }

    private static void checkMonths(int months) {
        if (months < 1 || months > MOST_MONTHS) {
            throw new IllegalArgumentException("months are 1 to 60");
        }
    }

    private void checkDrained(int place) {
        if (now.kinds[place] != DRAINED) {
            throw new IllegalStateException("the lot is not drained");
        }
    }

    private void checkCoins(int cost) {
        if (now.coins < cost) {
            throw new IllegalStateException("there are not so many coins");
        }
    }

    // ---- lots, kinds and neighbours

    private static boolean isLot(int place) {
        return place >= 0 && place < LOTS;
    }

    private static int costOf(int kind) {
        switch (kind) {
            case HOUSES:
                return COST_OF_HOUSES;
            case WORKSHOP:
                return COST_OF_A_WORKSHOP;
            default:
                return COST_OF_A_MARKET;
        }
    }

    private static boolean isLand(int kind) {
        return kind >= DRAINED && kind <= BRIDGE;
    }

    private static boolean isWater(int kind) {
        return kind == CANAL || kind == BRIDGE;
    }

    /** The number of the lot on this side (0 to 3), or OUTSIDE. */
    private static int neighbour(int place, int side) {
        int x = place % SIDE;
        int y = place / SIDE;
        switch (side) {
            case 0:
                return y > 0 ? place - SIDE : OUTSIDE;
            case 1:
                return x > 0 ? place - 1 : OUTSIDE;
            case 2:
                return x < SIDE - 1 ? place + 1 : OUTSIDE;
            default:
                return y < SIDE - 1 ? place + SIDE : OUTSIDE;
        }
    }

    /** The city at one time; what its other rows hold follows from kinds, and survey() renews it. */
    private static final class City {
        private int month;
        private int coins;
        private int left;
        private final int[] kinds;
        // The least number of a lot of the quarter, or -1; the three rows below it are by that number.
        private final int[] quarters;
        private final int[] lotsOf;
        private final int[] housesOf;
        private final int[] marketsOf;
        // Steps by boat to the sea gate; -1 where no open water is.
        private final int[] boatSteps;
        private final int[] complaints;
        private final int[] dues;
        private final int[] footSteps;
        private final int[] waiting;

        City() {
            month = 0;
            coins = COINS_AT_FIRST;
            left = 0;
            kinds = new int[LOTS];
            quarters = new int[LOTS];
            lotsOf = new int[LOTS];
            housesOf = new int[LOTS];
            marketsOf = new int[LOTS];
            boatSteps = new int[LOTS];
            complaints = new int[LOTS];
            dues = new int[LOTS];
            footSteps = new int[LOTS];
            waiting = new int[LOTS];
            for (int y = 0; y < SIDE; y++) {
                kinds[SIDE * y + GATE_X] = CANAL;
            }
            survey();
        }

        /** Takes over the other city; a change or a survey must follow before the rows are asked. */
        void become(City other) {
            month = other.month;
            coins = other.coins;
            left = other.left;
            for (int place = 0; place < LOTS; place++) {
                kinds[place] = other.kinds[place];
            }
        }

        void buy(int place, int kind, int cost) {
            coins -= cost;
            change(place, kind);
        }

        void change(int place, int kind) {
            kinds[place] = kind;
            survey();
        }

        // ---- months

        /** Lets months go by and answers how many coins came in. */
        int live(int months) {
            int income = 0;
            for (int gone = 0; gone < months; gone++) {
                int dueNow = duesOfAll();
                income += dueNow;
                coins += dueNow;
                leaveHouses();
                sinkLots();
                survey();
                month++;
            }
            return income;
        }

        private void leaveHouses() {
            for (int place = 0; place < LOTS; place++) {
                if (kinds[place] == HOUSES && complaints[place] >= COMPLAINTS_TO_LEAVE) {
                    kinds[place] = DRAINED;
                    left++;
                }
            }
        }

        private void sinkLots() {
            // All sink at once: first it is found which, as a sunk lot would be marsh to its neighbours.
            int sinking = 0;
            for (int place = 0; place < LOTS; place++) {
                if (kinds[place] == DRAINED && neighboursOfKind(place, MARSH) >= MARSH_TO_SINK) {
                    waiting[sinking] = place;
                    sinking++;
                }
            }
            for (int i = 0; i < sinking && i < LOTS; i++) {
                int place = waiting[i];
                if (isLot(place)) {
                    kinds[place] = MARSH;
                }
            }
        }

        // ---- the survey

        void survey() {
            surveyQuarters();
            clear(boatSteps, -1);
            if (isWater(kinds[SEA_GATE])) {
                spread(boatSteps, SEA_GATE, false, 0, 1);
            }
            for (int place = 0; place < LOTS; place++) {
                complaints[place] = complaintsAt(place);
                dues[place] = duesAt(place);
            }
        }

        private void surveyQuarters() {
            clear(quarters, -1);
            clear(lotsOf, 0);
            clear(housesOf, 0);
            clear(marketsOf, 0);
            // In the order of the numbers, so that the first lot met of a quarter is its least.
            for (int place = 0; place < LOTS; place++) {
                if (isLand(kinds[place])) {
                    if (quarters[place] < 0) {
                        spread(quarters, place, true, place, 0);
                    }
                    enter(quarters[place], kinds[place]);
                }
            }
        }

        private void enter(int quarter, int kind) {
            if (!isLot(quarter)) {
                return;
            }
            lotsOf[quarter]++;
            if (kind == HOUSES) {
                housesOf[quarter]++;
            } else if (kind == MARKET) {
                marketsOf[quarter]++;
            }
        }

        private static void clear(int[] row, int value) {
            for (int i = 0; i < row.length; i++) {
                row[i] = value;
            }
        }

        /**
         * Marks what is reached from start by way of land (or else of water), where the row holds
         * less than 0 as yet: start is marked with first, and each step adds more to the mark.
         */
        private void spread(int[] marks, int start, boolean byLand, int first, int more) {
            marks[start] = first;
            waiting[0] = start;
            int end = 1;
            for (int at = 0; at < end && at < LOTS; at++) {
                int from = waiting[at];
                for (int side = 0; isLot(from) && side < SIDES_OF_A_LOT; side++) {
                    int next = neighbour(from, side);
                    if (isLot(next) && marks[next] < 0 && end < LOTS
                            && (byLand ? isLand(kinds[next]) : isWater(kinds[next]))) {
                        marks[next] = marks[from] + more;
                        waiting[end] = next;
                        end++;
                    }
                }
            }
        }

        private int complaintsAt(int place) {
            if (kinds[place] != HOUSES) {
                return 0;
            }
            int withoutMarket = marketsInQuarter(place) == 0 ? 2 : 0;
            int withoutBoat = isByBoat(place) ? 0 : 1;
            return withoutMarket + neighboursOfKind(place, WORKSHOP) + withoutBoat;
        }

        private int duesAt(int place) {
            switch (kinds[place]) {
                case HOUSES:
                    return Math.max(0, 4 - complaints[place]);
                case WORKSHOP:
                    return isByBoat(place) ? 5 : 2;
                case MARKET:
                    return housesInQuarter(place) / 2;
                default:
                    return 0;
            }
        }

        // ---- what the survey tells

        int lotsOfQuarter(int place) {
            int quarter = quarters[place];
            return isLot(quarter) ? lotsOf[quarter] : 0;
        }

        private int housesInQuarter(int place) {
            int quarter = quarters[place];
            return isLot(quarter) ? housesOf[quarter] : 0;
        }

        private int marketsInQuarter(int place) {
            int quarter = quarters[place];
            return isLot(quarter) ? marketsOf[quarter] : 0;
        }

        private boolean isOpenWater(int place) {
            return boatSteps[place] >= 0;
        }

        private boolean isByBoat(int place) {
            int kind = kinds[place];
            if (!isLand(kind) || kind == BRIDGE) {
                return false;
            }
            for (int side = 0; side < SIDES_OF_A_LOT; side++) {
                int next = neighbour(place, side);
                if (isLot(next) && isOpenWater(next)) {
                    return true;
                }
            }
            return false;
        }

        private int neighboursOfKind(int place, int kind) {
            int found = 0;
            for (int side = 0; side < SIDES_OF_A_LOT; side++) {
                int next = neighbour(place, side);
                if (isLot(next) && kinds[next] == kind) {
                    found++;
                }
            }
            return found;
        }

        int stepsOnFoot(int from, int to) {
            clear(footSteps, -1);
            spread(footSteps, from, true, 0, 1);
            return footSteps[to];
        }

        int factOf(int place, int what) {
            switch (what) {
                case 0:
                    return kinds[place];
                case 1:
                    return quarters[place];
                case 2:
                    return lotsOfQuarter(place);
                case 3:
                    return isByBoat(place) || isOpenWater(place) ? 1 : 0;
                case 4:
                    return complaints[place];
                default:
                    return dues[place];
            }
        }

        int total(int what) {
            switch (what) {
                case 0:
                    return month;
                case 1:
                    return coins;
                case 9:
                    return quartersOfAll();
                case 10:
                    return complaintsOfAll();
                case 11:
                    return duesOfAll();
                case 12:
                    return left;
                default:
                    return lotsOfKind(what - FIRST_KIND_OF_COUNT);
            }
        }

        int lotsOfKind(int kind) {
            int found = 0;
            for (int place = 0; place < LOTS; place++) {
                if (kinds[place] == kind) {
                    found++;
                }
            }
            return found;
        }

        private int quartersOfAll() {
            int found = 0;
            for (int place = 0; place < LOTS; place++) {
                if (quarters[place] == place) {
                    found++;
                }
            }
            return found;
        }

        int complaintsOfAll() {
            return sum(complaints);
        }

        int duesOfAll() {
            return sum(dues);
        }

        private static int sum(int[] row) {
            int all = 0;
            for (int i = 0; i < row.length; i++) {
                all += row[i];
            }
            return all;
        }
    }
}
