import java.util.Arrays;

/**
 * A floating market: canoes moor in rows, one outside of the other, and trade with those beside
 * them, while the tide, the wakes and those who leave move them about.
 */
public final class FloatMarket {
    private static final int MOST_ROWS = 4;
    private static final int MOST_PLACES = 6;
    private static final int MOST_CANOES = 14;
    private static final int GOODS = 4;
    private static final int TABLE_STEPS = 24;
    private static final int HIGHEST_WATER = 9;
    private static final int WET_FROM = 4;

    private static final int MOST_COINS = 500;
    private static final int MOST_ROPE = 9;
    private static final int MOST_LOAD = 40;
    private static final int MOST_HELD = 100;
    private static final int MOST_PRICE = 20;
    private static final int MOST_WANTED = 40;

    private static final int MOST_STEPS_PASSED = 200;
    private static final int MOST_STEPS_FORESEEN = 150;
    private static final int MOST_STEPS_ADVISED = 60;
    private static final int MOST_STEPS_PRICED = 40;

    private static final int OPEN_WATER = 0;
    private static final int MOORED = 1;
    private static final int GONE = 2;

    private static final int NONE = -1;

    private static final int CANOE_FIGURES = 11;
    private static final int GOOD_FIGURES = 4;
    private static final int MARKET_FIGURES = 12;
    private static final int FORESEEN_FIGURES = 3;

    private static final int GOAL_FULL = 0;
    private static final int GOAL_GONE = 1;

    private static final long DIGEST_START = 683L;
    private static final long DIGEST_FACTOR = 31L;

    private final Water water;
    private final Market now;
    /** Looking ahead plays on this second market, made once, so that no call makes objects. */
    private final Market trial;

    public FloatMarket() {
        water = new Water();
        now = new Market(water);
        trial = new Market(water);
    }

    // ---- rows, tide, wakes

    public int addRow(int places) throws IllegalArgumentException, IllegalStateException {
        needRange(places, 1, MOST_PLACES);
        needState(now.rowCount < MOST_ROWS);
        return now.openRow(places);
    }

    public int setWater(int at, int tide, int wake)
            throws IndexOutOfBoundsException, IllegalArgumentException {
        needIndex(at, TABLE_STEPS);
        needRange(tide, 0, HIGHEST_WATER);
        needRange(wake, 0, HIGHEST_WATER);
        int before = water.entry(at);
        water.tides[at] = tide;
        water.wakes[at] = wake;
        return before;
    }

    // ---- canoes

    public int addCanoe(int coins, int rope)
            throws IllegalArgumentException, IllegalStateException {
        needRange(coins, 0, MOST_COINS);
        needRange(rope, 0, MOST_ROPE);
        needState(now.canoeCount < MOST_CANOES);
        return now.launch(coins, rope);
    }

    public int load(int canoe, int good, int many)
            throws IndexOutOfBoundsException, IllegalArgumentException, IllegalStateException {
        needIndex(canoe, now.canoeCount);
        needIndex(good, GOODS);
        needRange(many, 1, MOST_LOAD);
        Canoe loaded = now.canoes[canoe];
        needState(loaded.status != GONE && loaded.has[good] + many <= MOST_HELD);
        loaded.has[good] += many;
        return loaded.has[good];
    }

    public int offer(int canoe, int good, int price, int wants, int pays)
            throws IndexOutOfBoundsException, IllegalArgumentException {
        needIndex(canoe, now.canoeCount);
        needIndex(good, GOODS);
        needRange(price, 0, MOST_PRICE);
        needRange(pays, 0, MOST_PRICE);
        needRange(wants, 0, MOST_WANTED);
        Canoe offering = now.canoes[canoe];
        offering.asks[good] = price;
        offering.wants[good] = wants;
        offering.pays[good] = pays;
        return offering.misses(good);
    }

    public int moor(int canoe, int row) throws IndexOutOfBoundsException, IllegalStateException {
        needIndex(canoe, now.canoeCount);
        needIndex(row, now.rowCount);
        Canoe mooring = now.canoes[canoe];
        needState(mooring.status == OPEN_WATER && !now.rows[row].isFull());
        now.fasten(mooring, row);
        return mooring.place;
    }

    public int castOff(int canoe) throws IndexOutOfBoundsException, IllegalStateException {
        needIndex(canoe, now.canoeCount);
        Canoe leaving = now.canoes[canoe];
        needState(leaving.status == MOORED && !now.liesDry(leaving));
        return now.unfasten(leaving, OPEN_WATER);
    }

    public int leaveIn(int canoe, int step)
            throws IndexOutOfBoundsException, IllegalArgumentException, IllegalStateException {
        needIndex(canoe, now.canoeCount);
        if (step != NONE) {
            needRange(step, now.step, Integer.MAX_VALUE);
        }
        Canoe told = now.canoes[canoe];
        needState(told.status != GONE);
        int before = told.leaveStep;
        told.leaveStep = step;
        return before;
    }

    // ---- what is there

    public int canoe(int canoe, int what) throws IndexOutOfBoundsException {
        needIndex(canoe, now.canoeCount);
        needIndex(what, CANOE_FIGURES);
        return now.canoes[canoe].figure(what);
    }

    public int good(int canoe, int good, int what) throws IndexOutOfBoundsException {
        needIndex(canoe, now.canoeCount);
        needIndex(good, GOODS);
        needIndex(what, GOOD_FIGURES);
        return now.canoes[canoe].goodFigure(good, what);
    }

    public int at(int row, int place) throws IndexOutOfBoundsException {
        needIndex(row, now.rowCount);
        needIndex(place, now.rows[row].places);
        return now.rows[row].canoeAt(place);
    }

    public boolean beside(int a, int b) throws IndexOutOfBoundsException {
        needIndex(a, now.canoeCount);
        needIndex(b, now.canoeCount);
        return now.canoes[a].isBeside(now.canoes[b]);
    }

    // ---- steps

    public int pass(int steps) throws IllegalArgumentException {
        needRange(steps, 1, MOST_STEPS_PASSED);
        int before = now.sold;
        now.passSteps(steps);
        return now.sold - before;
    }

    public int count(int what) throws IndexOutOfBoundsException {
        needIndex(what, MARKET_FIGURES);
        return now.figure(what);
    }

    // ---- looking ahead

    public int foresee(int canoe, int steps, int what)
            throws IndexOutOfBoundsException, IllegalArgumentException {
        needIndex(canoe, now.canoeCount);
        needIndex(what, FORESEEN_FIGURES);
        needRange(steps, 1, MOST_STEPS_FORESEEN);
        trial.copyFrom(now);
        trial.passSteps(steps);
        Canoe then = trial.canoes[canoe];
        switch (what) {
            case 0:
                return then.coins;
            case 1:
                return then.missesInAll();
            default:
                return then.row;
        }
    }

    public int full(int canoe) throws IndexOutOfBoundsException {
        needIndex(canoe, now.canoeCount);
        return stepsUntil(canoe, GOAL_FULL);
    }

    public int gone(int canoe) throws IndexOutOfBoundsException {
        needIndex(canoe, now.canoeCount);
        return stepsUntil(canoe, GOAL_GONE);
    }

    public int advise(int canoe, int steps)
            throws IndexOutOfBoundsException, IllegalArgumentException, IllegalStateException {
        needIndex(canoe, now.canoeCount);
        needRange(steps, 1, MOST_STEPS_ADVISED);
        needState(now.canoes[canoe].status == OPEN_WATER);
        int bestRow = NONE;
        int mostCoins = NONE;
        for (int row = 0; row < now.rowCount; row++) {
            if (!now.rows[row].isFull()) {
                int coins = coinsIfMoored(canoe, row, steps);
                if (coins > mostCoins) {
                    bestRow = row;
                    mostCoins = coins;
                }
            }
        }
        return bestRow;
    }

    public int price(int canoe, int good, int steps)
            throws IndexOutOfBoundsException, IllegalArgumentException {
        needIndex(canoe, now.canoeCount);
        needIndex(good, GOODS);
        needRange(steps, 1, MOST_STEPS_PRICED);
        int bestPrice = NONE;
        int mostSold = NONE;
        for (int asked = 1; asked <= MOST_PRICE; asked++) {
            int sold = soldIfAsking(canoe, good, asked, steps);
            if (sold > mostSold) {
                bestPrice = asked;
                mostSold = sold;
            }
        }
        return bestPrice;
    }

    public double mean() {
        if (now.sold == 0) {
            return 0.0;
        }
        return (double) now.paid / (double) now.sold;
    }

    public long digest() {
        long d = DIGEST_START;
        for (int what = 0; what < MARKET_FIGURES; what++) {
            d = d * DIGEST_FACTOR + now.figure(what);
        }
        for (int at = 0; at < TABLE_STEPS; at++) {
            d = d * DIGEST_FACTOR + water.entry(at);
        }
        for (int row = 0; row < now.rowCount; row++) {
            d = now.rows[row].addTo(d);
        }
        for (int canoe = 0; canoe < now.canoeCount; canoe++) {
            d = now.canoes[canoe].addTo(d);
        }
        return d;
    }

    private int stepsUntil(int canoe, int goal) {
        trial.copyFrom(now);
        Canoe watched = trial.canoes[canoe];
        for (int steps = 0; steps <= MOST_STEPS_FORESEEN; steps++) {
            if (steps > 0) {
                trial.passSteps(1);
            }
            if (watched.hasReached(goal)) {
                return steps;
            }
        }
        return NONE;
    }

    private int coinsIfMoored(int canoe, int row, int steps) {
        trial.copyFrom(now);
        Canoe mooring = trial.canoes[canoe];
        trial.fasten(mooring, row);
        trial.passSteps(steps);
        return mooring.coins;
    }

    /** Counts what was sold before, too: that is the same for all prices. */
    private int soldIfAsking(int canoe, int good, int asked, int steps) {
        trial.copyFrom(now);
        Canoe asking = trial.canoes[canoe];
        asking.asks[good] = asked;
        trial.passSteps(steps);
        return asking.sold;
    }

    private static void needIndex(int index, int end) {
        if (index < 0 || index >= end) {
            throw new IndexOutOfBoundsException("there is no such number");
        }
    }

    private static void needRange(int value, int least, int most) {
        if (value < least || value > most) {
            throw new IllegalArgumentException("the value is out of its range");
        }
    }

    private static void needState(boolean allowed) {
        if (!allowed) {
            throw new IllegalStateException("this can not be done now");
        }
    }

    /** The tables of the tide and the wakes. */
    private static final class Water {
        final int[] tides;
        final int[] wakes;

        Water() {
            tides = new int[TABLE_STEPS];
            wakes = new int[TABLE_STEPS];
            Arrays.fill(tides, HIGHEST_WATER);
        }

        int tideIn(int step) {
            return tides[Math.floorMod(step, TABLE_STEPS)];
        }

        int wakeIn(int step) {
            return wakes[Math.floorMod(step, TABLE_STEPS)];
        }

        int entry(int at) {
            return 10 * tideIn(at) + wakeIn(at);
        }
    }

    /** A row with the numbers of its canoes, from the quay outwards. */
    private static final class Row {
        final int[] moored;
        int places;
        int used;

        Row() {
            moored = new int[MOST_PLACES];
        }

        void copyFrom(Row other) {
            places = other.places;
            used = other.used;
            System.arraycopy(other.moored, 0, moored, 0, MOST_PLACES);
        }

        boolean isFull() {
            return used >= places;
        }

        int canoeAt(int place) {
            return place >= 0 && place < used ? moored[place] : NONE;
        }

        void append(int canoe) {
            if (used < places) {
                moored[used] = canoe;
                used++;
            }
        }

        void closeGap(int place) {
            if (place < 0 || place >= used) {
                return;
            }
            for (int outer = place + 1; outer < used; outer++) {
                moored[outer - 1] = moored[outer];
            }
            used--;
        }

        long addTo(long digest) {
            long d = digest * DIGEST_FACTOR + places;
            for (int place = 0; place < places; place++) {
                d = d * DIGEST_FACTOR + canoeAt(place);
            }
            return d;
        }
    }

    /** A canoe with its goods; its row and place are NONE while it is not moored. */
    private static final class Canoe {
        final int number;
        final int[] has;
        final int[] asks;
        final int[] wants;
        final int[] pays;
        int coins;
        int rope;
        int status;
        int row;
        int place;
        int leaveStep;
        int loosened;
        int drifted;
        int lastDriftStep;
        int sold;
        int bought;

        Canoe(int number) {
            this.number = number;
            has = new int[GOODS];
            asks = new int[GOODS];
            wants = new int[GOODS];
            pays = new int[GOODS];
            status = OPEN_WATER;
            row = NONE;
            place = NONE;
            leaveStep = NONE;
            lastDriftStep = NONE;
        }

        void copyFrom(Canoe other) {
            coins = other.coins;
            rope = other.rope;
            status = other.status;
            row = other.row;
            place = other.place;
            leaveStep = other.leaveStep;
            loosened = other.loosened;
            drifted = other.drifted;
            lastDriftStep = other.lastDriftStep;
            sold = other.sold;
            bought = other.bought;
            System.arraycopy(other.has, 0, has, 0, GOODS);
            System.arraycopy(other.asks, 0, asks, 0, GOODS);
            System.arraycopy(other.wants, 0, wants, 0, GOODS);
            System.arraycopy(other.pays, 0, pays, 0, GOODS);
        }

        int misses(int good) {
            return Math.max(0, wants[good] - has[good]);
        }

        int missesInAll() {
            int sum = 0;
            for (int good = 0; good < GOODS; good++) {
                sum += misses(good);
            }
            return sum;
        }

        int goodsInAll() {
            int sum = 0;
            for (int good = 0; good < GOODS; good++) {
                sum += has[good];
            }
            return sum;
        }

        boolean sells(int good, int limit) {
            return asks[good] != 0 && asks[good] <= limit && has[good] > wants[good];
        }

        boolean isBeside(Canoe other) {
            if (status != MOORED || other.status != MOORED) {
                return false;
            }
            int rows = Math.abs(row - other.row);
            int places = Math.abs(place - other.place);
            return rows + places == 1;
        }

        boolean hasReached(int goal) {
            return goal == GOAL_GONE ? status == GONE : missesInAll() == 0;
        }

        boolean isToLeaveBy(int step) {
            return leaveStep != NONE && leaveStep <= step;
        }

        int figure(int what) {
            switch (what) {
                case 0:
                    return coins;
                case 1:
                    return rope;
                case 2:
                    return status;
                case 3:
                    return row;
                case 4:
                    return place;
                case 5:
                    return leaveStep;
                case 6:
                    return loosened;
                case 7:
                    return drifted;
                case 8:
                    return sold;
                case 9:
                    return bought;
                default:
                    return missesInAll();
            }
        }

        int goodFigure(int good, int what) {
            switch (what) {
                case 0:
                    return has[good];
                case 1:
                    return asks[good];
                case 2:
                    return wants[good];
                default:
                    return pays[good];
            }
        }

        long addTo(long digest) {
            long d = digest;
            for (int what = 0; what < CANOE_FIGURES; what++) {
                d = d * DIGEST_FACTOR + figure(what);
            }
            for (int good = 0; good < GOODS; good++) {
                for (int what = 0; what < GOOD_FIGURES; what++) {
                    d = d * DIGEST_FACTOR + goodFigure(good, what);
                }
            }
            return d;
        }
    }

    /** Rows and canoes at a step, and how they go on from it. */
    private static final class Market {
        final Water water;
        final Row[] rows;
        final Canoe[] canoes;
        int rowCount;
        int canoeCount;
        int step;
        int sold;
        int paid;
        int loosened;
        int drifted;

        Market(Water water) {
            this.water = water;
            rows = new Row[MOST_ROWS];
            for (int row = 0; row < MOST_ROWS; row++) {
                rows[row] = new Row();
            }
            canoes = new Canoe[MOST_CANOES];
            for (int canoe = 0; canoe < MOST_CANOES; canoe++) {
                canoes[canoe] = new Canoe(canoe);
            }
        }

        void copyFrom(Market other) {
            rowCount = other.rowCount;
            canoeCount = other.canoeCount;
            step = other.step;
            sold = other.sold;
            paid = other.paid;
            loosened = other.loosened;
            drifted = other.drifted;
            for (int row = 0; row < rowCount; row++) {
                rows[row].copyFrom(other.rows[row]);
            }
            for (int canoe = 0; canoe < canoeCount; canoe++) {
                canoes[canoe].copyFrom(other.canoes[canoe]);
            }
        }

        int openRow(int places) {
            int row = rowCount;
            rows[row].places = places;
            rowCount++;
            return row;
        }

        int launch(int coins, int rope) {
            int canoe = canoeCount;
            canoes[canoe].coins = coins;
            canoes[canoe].rope = rope;
            canoeCount++;
            return canoe;
        }

        void fasten(Canoe canoe, int row) {
            canoe.status = MOORED;
            canoe.row = row;
            canoe.place = rows[row].used;
            rows[row].append(canoe.number);
        }

        /** Takes a moored canoe out of its row; returns how many outside of it are loosened. */
        int unfasten(Canoe canoe, int status) {
            if (canoe.status != MOORED) {
                return 0;
            }
            Row row = rows[canoe.row];
            row.closeGap(canoe.place);
            for (int place = canoe.place; place < row.used; place++) {
                Canoe moved = canoes[row.moored[place]];
                moved.place = place;
                moved.loosened++;
            }
            int moves = row.used - canoe.place;
            loosened += moves;
            canoe.status = status;
            canoe.row = NONE;
            canoe.place = NONE;
            return moves;
        }

        boolean liesDry(Canoe canoe) {
            return canoe.status == MOORED && canoe.place + water.tideIn(step) < WET_FROM;
        }

        void passSteps(int steps) {
            for (int i = 0; i < steps; i++) {
                driftByRows();
                leaveByNumbers();
                tradeByNumbers();
                step++;
            }
        }

        void driftByRows() {
            int wake = water.wakeIn(step);
            for (int row = 0; row < rowCount; row++) {
                Canoe outermost = canoeAt(row, rows[row].used - 1);
                if (outermost != null && outermost.rope < wake
                        && outermost.lastDriftStep != step) {
                    drift(outermost, row);
                }
            }
        }

        void drift(Canoe canoe, int from) {
            unfasten(canoe, OPEN_WATER);
            int shelter = nextRowNotFull(from);
            if (shelter != NONE) {
                fasten(canoe, shelter);
            }
            canoe.drifted++;
            drifted++;
            canoe.lastDriftStep = step;
        }

        int nextRowNotFull(int from) {
            for (int ahead = 1; ahead < rowCount; ahead++) {
                int row = (from + ahead) % rowCount;
                if (!rows[row].isFull()) {
                    return row;
                }
            }
            return NONE;
        }

        void leaveByNumbers() {
            for (int number = 0; number < canoeCount; number++) {
                Canoe canoe = canoes[number];
                if (canoe.status == MOORED && canoe.isToLeaveBy(step) && !liesDry(canoe)) {
                    unfasten(canoe, GONE);
                }
            }
        }

        void tradeByNumbers() {
            for (int number = 0; number < canoeCount; number++) {
                Canoe buyer = canoes[number];
                if (buyer.status == MOORED) {
                    for (int good = 0; good < GOODS; good++) {
                        if (buyer.misses(good) > 0) {
                            trade(buyer, cheapestSeller(buyer, good), good);
                        }
                    }
                }
            }
        }

        Canoe cheapestSeller(Canoe buyer, int good) {
            int limit = Math.min(buyer.pays[good], buyer.coins);
            int row = buyer.row;
            int place = buyer.place;
            Canoe best = null;
            best = cheaper(best, canoeAt(row, place - 1), good, limit);
            best = cheaper(best, canoeAt(row, place + 1), good, limit);
            best = cheaper(best, canoeAt(row - 1, place), good, limit);
            best = cheaper(best, canoeAt(row + 1, place), good, limit);
            return best;
        }

        Canoe cheaper(Canoe best, Canoe other, int good, int limit) {
            if (other == null || !other.sells(good, limit)) {
                return best;
            }
            if (best == null || other.asks[good] < best.asks[good]) {
                return other;
            }
            boolean wins = other.asks[good] == best.asks[good] && other.number < best.number;
            return wins ? other : best;
        }

        void trade(Canoe buyer, Canoe seller, int good) {
            if (seller == null) {
                return;
            }
            int price = seller.asks[good];
            seller.has[good]--;
            seller.coins += price;
            seller.sold++;
            buyer.has[good]++;
            buyer.coins -= price;
            buyer.bought++;
            sold++;
            paid += price;
        }

        /** The canoe at a place, null where there is none, outside of all rows too. */
        Canoe canoeAt(int row, int place) {
            if (row < 0 || row >= rowCount) {
                return null;
            }
            int number = rows[row].canoeAt(place);
            return number == NONE ? null : canoes[number];
        }

        int figure(int what) {
            switch (what) {
                case 0:
                    return step;
                case 1:
                    return rowCount;
                case 2:
                    return canoeCount;
                case 3:
                    return canoesBeing(MOORED);
                case 4:
                    return canoesBeing(GONE);
                case 5:
                    return coinsInAll();
                case 6:
                    return goodsInAll();
                case 7:
                    return sold;
                case 8:
                    return paid;
                case 9:
                    return loosened;
                case 10:
                    return drifted;
                default:
                    return dryCanoes();
            }
        }

        int coinsInAll() {
            int sum = 0;
            for (int number = 0; number < canoeCount; number++) {
                sum += canoes[number].coins;
            }
            return sum;
        }

        int goodsInAll() {
            int sum = 0;
            for (int number = 0; number < canoeCount; number++) {
                sum += canoes[number].goodsInAll();
            }
            return sum;
        }

        int canoesBeing(int status) {
            int found = 0;
            for (int number = 0; number < canoeCount; number++) {
                if (canoes[number].status == status) {
                    found++;
                }
            }
            return found;
        }

        int dryCanoes() {
            int found = 0;
            for (int number = 0; number < canoeCount; number++) {
                if (liesDry(canoes[number])) {
                    found++;
                }
            }
            return found;
        }
    }
}
