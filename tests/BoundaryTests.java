import java.math.BigInteger;
import java.util.HashSet;
import java.util.Set;

/**
 * A test of its own for each sentence of the document that names a boundary case: the value just
 * inside a bound and the one just outside it, the empty and the full market or row, the step that
 * goes round in the tables, and the call that is refused, with its exception and without a change.
 */
public final class BoundaryTests {
    private static final Class<?> INDEX = IndexOutOfBoundsException.class;
    private static final Class<?> ARGUMENT = IllegalArgumentException.class;
    private static final Class<?> STATE = IllegalStateException.class;
    private static final int LEAST = Integer.MIN_VALUE;
    private static final int MOST = Integer.MAX_VALUE;
    private static final int MOORED = 1;
    private static final int GONE = 2;

    private static final Set<String> SENTENCES = new HashSet<>();

    private static int wrong = 0;
    private static String sentence = "";

    private interface Maker {
        FloatMarket make();
    }

    private interface Call {
        long with(FloatMarket m, int x);
    }

    private interface Deed {
        long on(FloatMarket m);
    }

    private static void sentence(String words) {
        sentence = words;
        SENTENCES.add(words);
    }

    private static void fault(String what) {
        wrong++;
        System.out.println("'" + sentence + "': " + what);
    }

    private static void is(String what, double due, double got) {
        if (got != due) {
            fault(what + " is " + got + ", due is " + due);
        }
    }

    private static void holds(String what, boolean got) {
        if (!got) {
            fault("not so: " + what);
        }
    }

    private static Class<?> thrownBy(FloatMarket m, Deed deed) {
        try {
            deed.on(m);
        } catch (RuntimeException e) {
            return e.getClass();
        }
        return null;
    }

    /** The call throws this very class, and changes nothing. */
    private static void refused(String what, FloatMarket m, Class<?> kind, Deed deed) {
        long before = m.digest();
        double mean = m.mean();
        Class<?> thrown = thrownBy(m, deed);
        if (thrown != kind) {
            fault(what + " throws " + thrown + ", due is " + kind);
        }
        holds(what + " changes nothing", before == m.digest() && mean == m.mean());
    }

    private static void taken(String what, FloatMarket m, Deed deed) {
        Class<?> thrown = thrownBy(m, deed);
        if (thrown != null) {
            fault(what + " throws " + thrown);
        }
    }

    /** Each value from least to most is taken, those beyond are refused. */
    private static void bounds(Class<?> kind, int least, int most, Maker maker, Call call) {
        for (int x = least; x <= most; x++) {
            int value = x;
            taken("a call with " + value, maker.make(), m -> call.with(m, value));
        }
        for (int value : new int[] {least - 1, most + 1, LEAST, MOST}) {
            refused("a call with " + value, maker.make(), kind, m -> call.with(m, value));
        }
    }

    private static FloatMarket market(int... places) {
        FloatMarket m = new FloatMarket();
        for (int p : places) {
            m.addRow(p);
        }
        return m;
    }

    private static void canoes(FloatMarket m, int many, int coins, int rope) {
        for (int i = 0; i < many; i++) {
            m.addCanoe(coins, rope);
        }
    }

    /** Adds canoes with 100 coins and the highest rope, and moors them in a row. */
    private static void fill(FloatMarket m, int row, int many) {
        for (int i = 0; i < many; i++) {
            m.moor(m.addCanoe(100, 9), row);
        }
    }

    private static FloatMarket filled(int... places) {
        FloatMarket m = market(places);
        for (int row = 0; row < places.length; row++) {
            fill(m, row, places[row]);
        }
        return m;
    }

    /** Four rows and fourteen canoes, all moored; the rows 1 and 2 are full. */
    private static FloatMarket fullMarket() {
        FloatMarket m = market(6, 1, 3, 6);
        int[] moored = {5, 1, 3, 5};
        for (int row = 0; row < moored.length; row++) {
            fill(m, row, moored[row]);
        }
        return m;
    }

    private static void sells(FloatMarket m, int canoe, int good, int has, int price) {
        m.load(canoe, good, has);
        m.offer(canoe, good, price, 0, 0);
    }

    private static void buys(FloatMarket m, int canoe, int good, int wants, int pays) {
        m.offer(canoe, good, 0, wants, pays);
    }

    /** A seller, number 0, and a buyer, number 1, of the good 0 in one row. */
    private static FloatMarket pair(int has, int price, int wants, int pays) {
        FloatMarket m = filled(2);
        m.load(0, 0, has);
        m.offer(0, 0, price, 0, 0);
        m.offer(1, 0, 0, wants, pays);
        return m;
    }

    /** A canoe that is gone, number 0, and one that is moored, number 1. */
    private static FloatMarket withOneGone() {
        FloatMarket m = filled(3);
        m.leaveIn(0, 0);
        m.leaveIn(2, 0);
        m.pass(1);
        return m;
    }

    private static void everyTide(FloatMarket m, int tide) {
        for (int at = 0; at < 24; at++) {
            m.setWater(at, tide, 0);
        }
    }

    private static void everyWake(FloatMarket m, int wake) {
        for (int at = 0; at < 24; at++) {
            m.setWater(at, 9, wake);
        }
    }

    private static void rowIs(FloatMarket m, int row, int... due) {
        for (int place = 0; place < due.length; place++) {
            is("at(" + row + ", " + place + ")", due[place], m.at(row, place));
        }
    }

    private static void isAt(FloatMarket m, int canoe, int status, int row, int place) {
        is("the status of " + canoe, status, m.canoe(canoe, 2));
        is("the row of " + canoe, row, m.canoe(canoe, 3));
        is("the place of " + canoe, place, m.canoe(canoe, 4));
    }

    public static void main(String[] args) {
        theUse();
        rowsOfTheTerms();
        canoesOfTheTerms();
        besideEachOther();
        tables();
        dryPlaces();
        castingOff();
        wakesOfAStep();
        leavingInAStep();
        tradingInAStep();
        endOfAStep();
        refusedCalls();
        newObject();
        addRow();
        setWater();
        addCanoe();
        load();
        offer();
        moor();
        castOff();
        leaveIn();
        canoe();
        good();
        at();
        beside();
        pass();
        count();
        lookingAheadInAFullMarket();
        foresee();
        full();
        gone();
        advise();
        price();
        mean();
        digest();
        System.out.println(SENTENCES.size() + " sentences, " + wrong + " checks failed");
        if (wrong != 0) {
            System.exit(1);
        }
    }

    // ---- What it is

    private static void theUse() {
        sentence("An object is used for at most 512 calls");
        FloatMarket m = market(1, 1);
        m.moor(m.addCanoe(0, 0), 0);
        m.setWater(23, 9, 1);
        for (int call = 6; call <= 508; call++) {
            m.pass(200);
        }
        int step = 503 * 200;
        int drifts = step / 24;
        is("the step", step, m.count(0));
        is("drifts", drifts, m.canoe(0, 7));
        is("the row", drifts % 2, m.canoe(0, 3));
        is("the call 512", -1, m.leaveIn(0, step));
    }

    // ---- Terms: rows

    private static void rowsOfTheTerms() {
        sentence("Time is told in steps, from 0");
        FloatMarket m = market();
        is("the step at first", 0, m.count(0));
        m.pass(1);
        is("the step then", 1, m.count(0));
        atMostFourRows();
        oneToSixPlaces();
        withoutGaps();
        firstFreePlace();
    }

    private static void atMostFourRows() {
        sentence("There are at most 4, numbered from 0 in the order of their adding");
        FloatMarket m = market();
        for (int row = 0; row < 4; row++) {
            is("the new row", row, m.addRow(row + 1));
            is("rows", row + 1, m.count(1));
        }
        refused("a fifth row", m, STATE, x -> x.addRow(1));
        for (int row = 0; row < 4; row++) {
            int places = row + 1;
            int number = row;
            is("the last place of the row " + row, -1, m.at(row, row));
            refused("a place more", m, INDEX, x -> x.at(number, places));
        }
        is("mooring in the row 3", 0, m.moor(m.addCanoe(0, 0), 3));
    }

    private static void oneToSixPlaces() {
        sentence("each has 1 to 6 places, numbered from 0 at the quay outwards");
        for (int places = 1; places <= 6; places++) {
            FloatMarket m = market(places);
            for (int place = 0; place < places; place++) {
                is("a place of " + places, place, m.moor(m.addCanoe(0, 0), 0));
                is("who is there", place, m.at(0, place));
            }
            int late = m.addCanoe(0, 0);
            refused("mooring behind the last", m, STATE, x -> x.moor(late, 0));
        }
    }

    private static void withoutGaps() {
        sentence("Canoes moor at the places 0, 1 and so on, without gaps");
        FloatMarket m = filled(6);
        m.castOff(2);
        rowIs(m, 0, 0, 1, 3, 4, 5, -1);
        m.castOff(0);
        rowIs(m, 0, 1, 3, 4, 5, -1, -1);
        m.leaveIn(4, 0);
        m.pass(1);
        rowIs(m, 0, 1, 3, 5, -1, -1, -1);
        m.castOff(5);
        rowIs(m, 0, 1, 3, -1, -1, -1, -1);
    }

    private static void firstFreePlace() {
        sentence("a new one at the first free place");
        FloatMarket m = filled(3, 2);
        canoes(m, 2, 0, 0);
        m.castOff(1);
        is("behind the one who moved in", 2, m.moor(5, 0));
        rowIs(m, 0, 0, 2, 5);
        m.castOff(3);
        m.castOff(4);
        is("in a row that is empty again", 0, m.moor(6, 1));
        is("behind it", 1, m.moor(3, 1));
    }

    // ---- Terms: canoes

    private static void canoesOfTheTerms() {
        atMostFourteenCanoes();
        coinsFromZero();
        ropesToNine();
        onOpenWaterAtFirst();
        allZeroAtFirst();
        fourGoods();
        priceZeroSellsNone();
        wantsToForty();
        paysToTwenty();
        missesAtLeastZero();
    }

    private static void atMostFourteenCanoes() {
        sentence("There are at most 14, numbered likewise");
        FloatMarket m = market();
        for (int canoe = 0; canoe < 14; canoe++) {
            is("the new canoe", canoe, m.addCanoe(canoe, canoe % 10));
            is("canoes", canoe + 1, m.count(2));
        }
        refused("a fifteenth", m, STATE, x -> x.addCanoe(0, 0));
        for (int canoe = 0; canoe < 14; canoe++) {
            is("its coins", canoe, m.canoe(canoe, 0));
        }
    }

    private static void coinsFromZero() {
        sentence("each has coins, 0 or more");
        FloatMarket m = market(2);
        m.moor(m.addCanoe(500, 9), 0);
        m.moor(m.addCanoe(1, 9), 0);
        sells(m, 0, 0, 2, 1);
        buys(m, 1, 0, 2, 20);
        is("with 1 coin it buys one", 1, m.pass(1));
        is("its coins", 0, m.canoe(1, 0));
        is("the other's coins, more than a new one may have", 501, m.canoe(0, 0));
        is("with 0 coins it buys none", 0, m.pass(1));
        is("its coins", 0, m.canoe(1, 0));
    }

    private static void ropesToNine() {
        sentence("and a rope, 0 to 9");
        FloatMarket m = market(1, 1, 1, 1);
        m.moor(m.addCanoe(0, 9), 0);
        m.moor(m.addCanoe(0, 0), 2);
        is("the highest rope", 9, m.canoe(0, 1));
        is("the least rope", 0, m.canoe(1, 1));
        everyWake(m, 9);
        m.pass(24);
        is("drifts with the highest rope", 0, m.canoe(0, 7));
        is("drifts with the least rope", 24, m.canoe(1, 7));
    }

    private static void onOpenWaterAtFirst() {
        sentence("it is on open water (at first), moored, or gone");
        FloatMarket m = market(1);
        m.addCanoe(0, 0);
        isAt(m, 0, 0, -1, -1);
        m.moor(0, 0);
        isAt(m, 0, MOORED, 0, 0);
        m.castOff(0);
        isAt(m, 0, 0, -1, -1);
        m.moor(0, 0);
        m.leaveIn(0, 0);
        m.pass(1);
        isAt(m, 0, GONE, -1, -1);
    }

    private static void allZeroAtFirst() {
        sentence("(all 0, at first)");
        FloatMarket m = market();
        canoes(m, 14, 500, 9);
        for (int canoe = 0; canoe < 14; canoe++) {
            for (int i = 0; i < 16; i++) {
                is("good(" + canoe + ", ..)", 0, m.good(canoe, i / 4, i % 4));
            }
            for (int what = 6; what < 11; what++) {
                is("canoe(" + canoe + ", " + what + ")", 0, m.canoe(canoe, what));
            }
        }
        is("goods of all", 0, m.count(6));
    }

    private static void fourGoods() {
        sentence("Of each good, 0 to 3, it has some, 0 or more");
        FloatMarket m = filled(2);
        for (int good = 0; good < 4; good++) {
            sells(m, 0, good, good + 1, 1);
            buys(m, 1, good, 40, 1);
        }
        is("sold in 1 step", 4, m.pass(1));
        is("sold in 200 steps more", 6, m.pass(200));
        for (int good = 0; good < 4; good++) {
            is("the seller has of " + good, 0, m.good(0, good, 0));
            is("the buyer has of " + good, good + 1, m.good(1, good, 0));
        }
    }

    private static void priceZeroSellsNone() {
        sentence("asks a price, 0 to 20 (0: it sells none)");
        is("at 0 to one who pays 0", 0, pair(5, 0, 5, 0).pass(5));
        is("at 0 to one who pays 20", 0, pair(5, 0, 5, 20).pass(5));
        is("at 1 to one who pays 1", 5, pair(5, 1, 5, 1).pass(5));
        is("at 20 to one who pays 20", 5, pair(5, 20, 5, 20).pass(5));
        FloatMarket m = pair(5, 20, 5, 20);
        m.pass(1);
        is("it has one more price", 120, m.canoe(0, 0));
        m.offer(0, 0, 0, 0, 0);
        is("it asks 0 now", 0, m.pass(5));
    }

    private static void wantsToForty() {
        sentence("wants some, 0 to 40");
        FloatMarket m = pair(40, 1, 40, 1);
        m.load(0, 0, 40);
        is("misses", 40, m.canoe(1, 10));
        is("it buys no more than it wants", 40, m.pass(200));
        is("it wants 0", 0, pair(5, 1, 0, 20).pass(5));
        is("it wants 1", 1, pair(5, 1, 1, 20).pass(5));
    }

    private static void paysToTwenty() {
        sentence("and pays at most so much for one, 0 to 20");
        for (int pays = 0; pays <= 20; pays++) {
            for (int price = 1; price <= 20; price++) {
                is("sold at " + price + " to one who pays " + pays, price <= pays ? 1 : 0,
                        pair(1, price, 1, pays).pass(1));
            }
        }
    }

    private static void missesAtLeastZero() {
        sentence("What it misses of a good is what it wants, less what it has, at least 0");
        FloatMarket m = market();
        m.addCanoe(0, 0);
        m.load(0, 1, 5);
        int[] wants = {0, 4, 5, 6, 40};
        int[] misses = {0, 0, 0, 1, 35};
        for (int i = 0; i < wants.length; i++) {
            is("offer", misses[i], m.offer(0, 1, 0, wants[i], 0));
            is("it misses", misses[i], m.canoe(0, 10));
        }
        m.offer(0, 1, 0, 0, 0);
        m.offer(0, 2, 0, 3, 0);
        is("what it has too much of one does not make up for another", 3, m.canoe(0, 10));
    }

    // ---- Terms: beside

    private static void besideEachOther() {
        sameRow();
        sameDifferenceOfRows();
        neitherDiagonally();
        moored();
    }

    private static void sameRow() {
        sentence("at places of the same row, the difference of which is 1");
        FloatMarket m = filled(6);
        for (int a = 0; a < 6; a++) {
            for (int b = 0; b < 6; b++) {
                holds(a + " and " + b, m.beside(a, b) == (a - b == 1 || b - a == 1));
            }
        }
    }

    private static void sameDifferenceOfRows() {
        sentence("at the same place of two rows, the difference of whose numbers is 1");
        FloatMarket m = filled(3, 3, 3, 3);
        for (int a = 0; a < 12; a += 3) {
            for (int b = 0; b < 12; b += 3) {
                for (int place = 0; place < 3; place++) {
                    holds("place " + place + " of the rows " + a / 3 + " and " + b / 3,
                            m.beside(a + place, b + place) == (a - b == 3 || b - a == 3));
                }
            }
        }
    }

    private static void neitherDiagonally() {
        sentence("Beside each other: not over a corner, nor from the end of a row to the next");
        FloatMarket m = filled(6, 6);
        for (int a = 0; a < 6; a++) {
            for (int b = 0; b < 6; b++) {
                holds(a + " of the row 0, " + b + " of 1", m.beside(a, 6 + b) == (a == b));
                holds(b + " of the row 1, " + a + " of 0", m.beside(6 + b, a) == (a == b));
            }
        }
        FloatMarket uneven = filled(1, 3);
        holds("behind the shorter row there is none", !uneven.beside(0, 2) && uneven.beside(0, 1));
    }

    private static void moored() {
        sentence("Beside each other are two moored canoes");
        FloatMarket m = filled(2, 2, 2);
        m.addCanoe(0, 0);
        m.addCanoe(0, 0);
        holds("they are moored", m.beside(0, 1) && m.beside(1, 3) && m.beside(3, 5));
        m.castOff(1);
        m.leaveIn(3, 0);
        m.pass(1);
        isAt(m, 3, GONE, -1, -1);
        for (int other = 0; other < 8; other++) {
            holds("one on open water and " + other, !m.beside(1, other) && !m.beside(other, 1));
            holds("one that is gone and " + other, !m.beside(3, other) && !m.beside(other, 3));
            holds("a new one and " + other, !m.beside(6, other) && !m.beside(other, 6));
        }
    }

    // ---- Terms: tide and wakes

    private static void tables() {
        sentence("Tables tell for each of 24 steps the tide, 0 to 9 (9, at first)");
        FloatMarket m = filled(6);
        for (int step = 0; step < 25; step++) {
            is("dry at first", 0, m.count(11));
            m.pass(1);
        }
        for (int at = 0; at < 24; at++) {
            is("setWater", 90, m.setWater(at, 0, 9));
        }
        sentence("and the wake, 0 to 9 (0, at first)");
        FloatMarket calm = market(1);
        calm.moor(calm.addCanoe(0, 0), 0);
        calm.pass(25);
        is("drifts at first", 0, calm.count(10));
        for (int at : new int[] {0, 1, 12, 22, 23}) {
            tideGoesRound(at);
            wakeGoesRound(at);
            castingOffGoesRound(at);
            leavingGoesRound(at);
        }
        goesRoundInAPass();
    }

    private static void tideGoesRound(int at) {
        sentence("in the step t the tide is the one with the number t by the remainder of 24");
        FloatMarket m = filled(1);
        m.setWater(at, 3, 0);
        for (int step = 0; step < 74; step++) {
            is("dry in the step " + step, step % 24 == at ? 1 : 0, m.count(11));
            m.pass(1);
        }
    }

    private static void wakeGoesRound(int at) {
        sentence("in the step t the wake is the one with the number t by the remainder of 24");
        FloatMarket m = market(1, 1);
        m.moor(m.addCanoe(0, 3), 0);
        m.setWater(at, 9, 4);
        int drifts = 0;
        for (int step = 0; step < 74; step++) {
            m.pass(1);
            drifts += step % 24 == at ? 1 : 0;
            is("drifts behind the step " + step, drifts, m.count(10));
        }
    }

    private static void castingOffGoesRound(int at) {
        sentence("a place is dry by the tide of the step, round in the tables, for castOff");
        FloatMarket m = filled(1);
        m.setWater(at, 0, 0);
        for (int step = 0; step < 50; step++) {
            if (step % 24 == at) {
                refused("castOff in the step " + step, m, STATE, x -> x.castOff(0));
            } else {
                is("castOff in the step " + step, 0, m.castOff(0));
                m.moor(0, 0);
            }
            m.pass(1);
        }
    }

    private static void leavingGoesRound(int at) {
        sentence("a place is dry by the tide of the step, round in the tables, for leaving");
        for (int step = 0; step < 74; step++) {
            FloatMarket m = filled(1);
            m.setWater(at, 0, 0);
            m.leaveIn(0, step);
            is("gone, to leave in " + step, step % 24 == at ? step + 2 : step + 1, m.gone(0));
        }
    }

    private static void goesRoundInAPass() {
        sentence("the tables go round within one call of pass");
        FloatMarket m = market(1, 1);
        m.moor(m.addCanoe(0, 0), 0);
        m.setWater(0, 9, 1);
        m.setWater(23, 9, 1);
        m.pass(20);
        m.pass(200);
        is("drifts in 220 steps", 10 + 9, m.count(10));
        FloatMarket dry = filled(1);
        everyTide(dry, 0);
        dry.setWater(5, 4, 0);
        dry.pass(6);
        dry.leaveIn(0, 6);
        dry.pass(23);
        is("it stays till the step 29", MOORED, dry.canoe(0, 2));
        dry.pass(1);
        is("it leaves in the step 29", GONE, dry.canoe(0, 2));
    }

    private static void dryPlaces() {
        for (int tide = 0; tide <= 9; tide++) {
            sentence("A place p is dry, if p and the tide, added, are less than 4");
            FloatMarket m = filled(6);
            m.setWater(0, tide, 0);
            is("dry places, tide " + tide, Math.max(0, 4 - tide), m.count(11));
            for (int place = 0; place < 6; place++) {
                dryForCastOff(place, tide);
                dryForLeaving(place, tide);
            }
        }
        sentence("A dry place where no canoe is moored counts for none");
        FloatMarket empty = market(6, 6);
        everyTide(empty, 0);
        is("dry places in empty rows", 0, empty.count(11));
        fill(empty, 1, 2);
        is("dry places with two canoes", 2, empty.count(11));
        fill(empty, 1, 4);
        is("dry places with six canoes", 4, empty.count(11));
    }

    private static void dryForCastOff(int place, int tide) {
        sentence("castOff: a moored canoe at a place that is not dry leaves its row");
        FloatMarket m = filled(6);
        m.setWater(0, tide, 0);
        String what = "castOff at the place " + place + ", tide " + tide;
        if (place + tide < 4) {
            refused(what, m, STATE, x -> x.castOff(place));
        } else {
            is(what, 5 - place, m.castOff(place));
        }
    }

    private static void dryForLeaving(int place, int tide) {
        sentence("a step: leaving, if its place is not dry");
        FloatMarket m = filled(6);
        m.setWater(0, tide, 0);
        m.leaveIn(place, 0);
        m.pass(1);
        is("the status of the one at " + place + ", tide " + tide, place + tide < 4 ? MOORED : GONE,
                m.canoe(place, 2));
        m.pass(1);
        is("its status a step later", GONE, m.canoe(place, 2));
    }

    // ---- Terms: casting off

    private static void castingOff() {
        for (int place = 0; place < 6; place++) {
            sentence("each one outside of it is loosened, and comes to the place before its own");
            FloatMarket m = filled(6);
            is("castOff at the place " + place, 5 - place, m.castOff(place));
            is("loosened in all", 5 - place, m.count(9));
            isAt(m, place, 0, -1, -1);
            for (int canoe = 0; canoe < 6; canoe++) {
                is("loosened " + canoe, canoe > place ? 1 : 0, m.canoe(canoe, 6));
                if (canoe != place) {
                    isAt(m, canoe, MOORED, 0, canoe > place ? canoe - 1 : canoe);
                }
            }
        }
        sentence("Casting off loosens none in another row");
        FloatMarket m = filled(2, 3);
        is("castOff", 1, m.castOff(0));
        rowIs(m, 1, 2, 3, 4);
        is("loosened in the other row", 0, m.canoe(3, 6) + m.canoe(4, 6));
    }

    // ---- Terms: a step, wakes

    private static void wakesOfAStep() {
        wakesByRows();
        wakesInEmptyRows();
        onlyTheOutermost();
        ropeLessThanWake();
        driftsOnceAStep();
        driftedCoversAnother();
        driftsFromDryPlaces();
        firstRowThatIsNotFull();
        withoutSuchARow();
        comesToTheFirstFreePlace();
    }

    private static void wakesByRows() {
        sentence("Wakes, by rows");
        FloatMarket m = market(1, 1);
        canoes(m, 2, 0, 0);
        m.moor(1, 0);
        m.moor(0, 1);
        m.setWater(0, 9, 1);
        m.pass(1);
        isAt(m, 1, 0, -1, -1);
        isAt(m, 0, MOORED, 0, 0);
        is("drifts", 2, m.count(10));
    }

    private static void wakesInEmptyRows() {
        sentence("the outermost canoe of the row, if there is one");
        FloatMarket none = market();
        everyWake(none, 9);
        is("pass without a row", 0, none.pass(24));
        FloatMarket m = market(1, 6, 2, 1);
        everyWake(m, 9);
        is("pass without a canoe", 0, m.pass(24));
        is("drifts", 0, m.count(10));
        m.moor(m.addCanoe(0, 0), 2);
        m.pass(1);
        isAt(m, 0, MOORED, 3, 0);
        m.pass(1);
        isAt(m, 0, MOORED, 0, 0);
    }

    private static void onlyTheOutermost() {
        sentence("Wakes take only the outermost canoe of a row, one in a step");
        FloatMarket m = market(6, 6);
        for (int i = 0; i < 6; i++) {
            m.moor(m.addCanoe(0, 0), 0);
        }
        m.setWater(0, 9, 9);
        m.pass(1);
        rowIs(m, 0, 0, 1, 2, 3, 4, -1);
        rowIs(m, 1, 5, -1, -1, -1, -1, -1);
        is("loosened", 0, m.count(9));
        FloatMarket held = market(3, 3);
        held.moor(held.addCanoe(0, 0), 0);
        held.moor(held.addCanoe(0, 9), 0);
        everyWake(held, 9);
        held.pass(24);
        rowIs(held, 0, 0, 1, -1);
    }

    private static void ropeLessThanWake() {
        sentence("its rope is less than the wake");
        for (int rope = 0; rope <= 9; rope++) {
            for (int wake = 0; wake <= 9; wake++) {
                FloatMarket m = market(1, 1);
                m.moor(m.addCanoe(0, rope), 0);
                m.setWater(0, 9, wake);
                m.pass(1);
                isAt(m, 0, MOORED, rope < wake ? 1 : 0, 0);
                is("drifts", rope < wake ? 1 : 0, m.canoe(0, 7));
            }
        }
    }

    private static void driftsOnceAStep() {
        sentence("and it has not drifted in this step yet");
        FloatMarket m = market(2, 2, 2, 2);
        m.moor(m.addCanoe(0, 0), 0);
        everyWake(m, 1);
        for (int step = 1; step <= 50; step++) {
            m.pass(1);
            isAt(m, 0, MOORED, step % 4, 0);
            is("drifts", step, m.canoe(0, 7));
        }
        m.pass(50);
        is("drifts", 100, m.count(10));
    }

    private static void driftedCoversAnother() {
        sentence("one that drifted in this step keeps the one inside of it from drifting");
        FloatMarket m = market(2, 3);
        m.moor(m.addCanoe(0, 0), 0);
        m.moor(m.addCanoe(0, 0), 1);
        m.setWater(0, 9, 1);
        m.pass(1);
        rowIs(m, 0, -1, -1);
        rowIs(m, 1, 1, 0, -1);
        is("drifts", 1, m.count(10));
    }

    private static void driftsFromDryPlaces() {
        sentence("Wakes ask for no tide");
        FloatMarket m = market(1, 1);
        m.moor(m.addCanoe(0, 0), 0);
        m.setWater(0, 0, 1);
        m.pass(1);
        isAt(m, 0, MOORED, 1, 0);
    }

    /** Each row as the one that is left, with each choice of the others that are full. */
    private static void firstRowThatIsNotFull() {
        sentence("the first row that is not full, looked for from the next row on, round");
        for (int own = 0; own < 4; own++) {
            for (int full = 0; full < 8; full++) {
                FloatMarket m = market(1, 1, 1, 1);
                m.moor(m.addCanoe(0, 0), own);
                int due = -1;
                for (int ahead = 1; ahead < 4; ahead++) {
                    int row = (own + ahead) % 4;
                    if ((full >> (ahead - 1) & 1) == 1) {
                        fill(m, row, 1);
                    } else if (due < 0) {
                        due = row;
                    }
                }
                m.setWater(0, 9, 1);
                m.pass(1);
                isAt(m, 0, due < 0 ? 0 : MOORED, due, due < 0 ? -1 : 0);
                is("drifts", 1, m.canoe(0, 7));
            }
        }
        sentence("a row that a canoe has left in this step is not full any more");
        FloatMarket m = market(1, 1, 1);
        m.moor(m.addCanoe(0, 9), 0);
        m.moor(m.addCanoe(0, 0), 1);
        m.moor(m.addCanoe(0, 0), 2);
        m.setWater(0, 9, 1);
        m.pass(1);
        isAt(m, 1, 0, -1, -1);
        isAt(m, 2, MOORED, 1, 0);
    }

    private static void withoutSuchARow() {
        sentence("without its own one");
        FloatMarket m = market(3);
        m.moor(m.addCanoe(0, 0), 0);
        m.setWater(0, 9, 1);
        m.pass(1);
        isAt(m, 0, 0, -1, -1);
        sentence("without such a row it is on open water");
        FloatMarket full = market(2, 3, 1);
        fill(full, 0, 2);
        fill(full, 2, 1);
        full.moor(full.addCanoe(0, 0), 1);
        full.setWater(0, 9, 1);
        full.pass(1);
        isAt(full, 3, 0, -1, -1);
        is("it drifted", 1, full.canoe(3, 7));
        is("drifts in all", 1, full.count(10));
        full.setWater(1, 9, 9);
        full.pass(1);
        is("on open water none drifts", 1, full.canoe(3, 7));
        is("it can be moored again", 0, full.moor(3, 1));
    }

    private static void comesToTheFirstFreePlace() {
        sentence("drifts: it leaves the row, and moors in the first free place of another");
        FloatMarket m = market(3, 6);
        fill(m, 0, 2);
        fill(m, 1, 5);
        m.moor(m.addCanoe(0, 0), 0);
        m.setWater(0, 9, 1);
        m.pass(1);
        rowIs(m, 0, 0, 1, -1);
        isAt(m, 7, MOORED, 1, 5);
        is("at the last place", 7, m.at(1, 5));
        is("loosened", 0, m.count(9));
        int late = m.addCanoe(0, 0);
        refused("it is full now", m, STATE, x -> x.moor(late, 1));
    }

    // ---- Terms: a step, leaving

    private static void leavingInAStep() {
        leavingByNumbers();
        leavingWhenMoored();
        leavingInThisStep();
        leavingInAnEarlierOne();
        leavingNoMore();
        goneIsGone();
        wakesBeforeLeaving();
    }

    private static void leavingByNumbers() {
        sentence("Leaving, by numbers");
        for (int inner = 0; inner < 2; inner++) {
            FloatMarket m = market(2);
            canoes(m, 2, 0, 9);
            m.moor(inner, 0);
            m.moor(1 - inner, 0);
            m.leaveIn(0, 0);
            m.leaveIn(1, 0);
            m.pass(1);
            is("gone", 2, m.count(4));
            is("loosened, if the inner one is " + inner, inner == 0 ? 1 : 0, m.count(9));
        }
        FloatMarket all = fullMarket();
        for (int canoe = 0; canoe < 14; canoe++) {
            all.leaveIn(canoe, 0);
        }
        all.pass(1);
        is("all are gone", 14, all.count(4));
        is("none is moored", 0, all.count(3));
        is("loosened", 10 + 0 + 3 + 10, all.count(9));
    }

    private static void leavingWhenMoored() {
        sentence("each moored canoe that is to leave (one on open water is not moored)");
        FloatMarket m = market(1);
        m.addCanoe(0, 9);
        m.leaveIn(0, 0);
        m.pass(9);
        isAt(m, 0, 0, -1, -1);
        m.moor(0, 0);
        isAt(m, 0, MOORED, 0, 0);
        m.pass(1);
        isAt(m, 0, GONE, -1, -1);
    }

    private static void leavingInThisStep() {
        sentence("that is to leave in this step");
        for (int step : new int[] {0, 1, 2, 23, 24, 25, 199}) {
            FloatMarket m = filled(1);
            m.leaveIn(0, step);
            if (step > 0) {
                m.pass(step);
            }
            is("before the step " + step, MOORED, m.canoe(0, 2));
            m.pass(1);
            is("behind the step " + step, GONE, m.canoe(0, 2));
        }
    }

    private static void leavingInAnEarlierOne() {
        sentence("or was to leave in an earlier one");
        for (int dry = 1; dry <= 24; dry++) {
            FloatMarket m = filled(1);
            for (int at = 0; at < dry && at < 24; at++) {
                m.setWater(at, 3, 0);
            }
            m.leaveIn(0, 0);
            m.pass(dry);
            is("still dry", MOORED, m.canoe(0, 2));
            if (dry == 24) {
                m.setWater(0, 4, 0);
            }
            m.pass(1);
            is("wet again behind " + dry, GONE, m.canoe(0, 2));
        }
    }

    private static void leavingNoMore() {
        sentence("-1: it is not to leave any more");
        FloatMarket m = filled(1);
        m.setWater(0, 0, 0);
        m.leaveIn(0, 0);
        m.pass(1);
        is("it is late", MOORED, m.canoe(0, 2));
        is("leaveIn", 0, m.leaveIn(0, -1));
        is("it is not to leave", -1, m.gone(0));
        m.pass(200);
        is("it stays", MOORED, m.canoe(0, 2));
        is("never told", -1, filled(1).gone(0));
    }

    private static void goneIsGone() {
        sentence("casts off, and is gone");
        FloatMarket m = filled(3);
        m.leaveIn(1, 0);
        m.pass(1);
        isAt(m, 1, GONE, -1, -1);
        rowIs(m, 0, 0, 2, -1);
        is("loosened outside", 1, m.canoe(2, 6));
        is("loosened inside", 0, m.canoe(0, 6) + m.canoe(1, 6));
        m.pass(200);
        isAt(m, 1, GONE, -1, -1);
        refused("moor", m, STATE, x -> x.moor(1, 0));
    }

    private static void wakesBeforeLeaving() {
        sentence("A step goes: first wakes, then leaving");
        FloatMarket m = market(1, 2);
        m.moor(m.addCanoe(0, 0), 0);
        fill(m, 1, 1);
        m.leaveIn(0, 0);
        m.setWater(0, 3, 9);
        m.pass(1);
        is("it drifts from a dry place to one that is not", 1, m.canoe(0, 7));
        is("and leaves from there", GONE, m.canoe(0, 2));
        FloatMarket alone = market(1);
        alone.moor(alone.addCanoe(0, 0), 0);
        alone.leaveIn(0, 0);
        alone.setWater(0, 9, 9);
        alone.pass(1);
        isAt(alone, 0, 0, -1, -1);
    }

    // ---- Terms: a step, trading

    private static void tradingInAStep() {
        tradingByNumbers();
        tradingWhenMoored();
        goodByGood();
        ifItMissesSome();
        buysOne();
        atMostItsCoins();
        hasMoreThanItWants();
        fromOneBeside();
        leastPriceSmallestNumber();
        priceGoesOver();
        leavingBeforeTrading();
    }

    private static void tradingByNumbers() {
        sentence("Trading, by numbers");
        FloatMarket rivals = market(3);
        canoes(rivals, 3, 100, 9);
        rivals.moor(2, 0);
        rivals.moor(0, 0);
        rivals.moor(1, 0);
        sells(rivals, 0, 0, 1, 2);
        buys(rivals, 1, 0, 1, 2);
        buys(rivals, 2, 0, 1, 20);
        is("sold", 1, rivals.pass(1));
        is("the smaller number has it", 1, rivals.good(1, 0, 0));
        for (int last = 0; last < 2; last++) {
            FloatMarket chain = market(3);
            chain.addCanoe(last == 0 ? 6 : 0, 9);
            chain.addCanoe(0, 9);
            chain.addCanoe(last == 0 ? 0 : 6, 9);
            fillChain(chain, last == 0 ? 0 : 2, last == 0 ? 2 : 0);
            is("coins serve the greater number in the same step", last == 0 ? 2 : 1, chain.pass(1));
            is("and the smaller one in the next", last == 0 ? 0 : 1, chain.pass(1));
        }
    }

    /** The first buys from the canoe 1, which can buy from the last only with these coins. */
    private static void fillChain(FloatMarket m, int first, int last) {
        m.moor(first, 0);
        m.moor(1, 0);
        m.moor(last, 0);
        sells(m, 1, 0, 1, 6);
        buys(m, first, 0, 1, 6);
        sells(m, last, 1, 1, 6);
        buys(m, 1, 1, 1, 6);
    }

    private static void tradingWhenMoored() {
        sentence("each moored canoe (none on open water or gone trades)");
        FloatMarket m = pair(9, 1, 9, 1);
        is("moored", 1, m.pass(1));
        m.castOff(1);
        is("the buyer on open water", 0, m.pass(9));
        m.moor(1, 0);
        is("moored again", 1, m.pass(1));
        m.castOff(0);
        is("the seller on open water", 0, m.pass(9));
        m.moor(0, 0);
        is("moored again", 1, m.pass(1));
        m.leaveIn(0, m.count(0));
        is("the seller gone", 0, m.pass(9));
        FloatMarket other = pair(9, 1, 9, 1);
        other.leaveIn(1, 0);
        is("the buyer gone", 0, other.pass(9));
    }

    private static void goodByGood() {
        sentence("good by good");
        for (int coins = 0; coins <= 12; coins++) {
            FloatMarket m = market(2);
            m.moor(m.addCanoe(0, 9), 0);
            m.moor(m.addCanoe(coins, 9), 0);
            for (int good = 3; good >= 0; good--) {
                sells(m, 0, good, 2, 3);
                buys(m, 1, good, 2, 3);
            }
            is("sold for " + coins, coins / 3, m.pass(1));
            for (int good = 0; good < 4; good++) {
                is("it has of " + good, good < coins / 3 ? 1 : 0, m.good(1, good, 0));
            }
        }
    }

    private static void ifItMissesSome() {
        sentence("if it misses some");
        FloatMarket m = pair(9, 1, 3, 1);
        m.load(1, 0, 3);
        is("it misses 0", 0, m.pass(5));
        m.offer(1, 0, 0, 4, 1);
        is("it misses 1", 1, m.pass(5));
        m.offer(1, 0, 0, 2, 1);
        is("it has more", 0, m.pass(5));
    }

    private static void buysOne() {
        sentence("it buys one");
        FloatMarket m = filled(3);
        sells(m, 0, 0, 9, 1);
        sells(m, 2, 0, 9, 1);
        buys(m, 1, 0, 9, 20);
        for (int step = 1; step <= 9; step++) {
            is("sold in one step", 1, m.pass(1));
            is("it has", step, m.good(1, 0, 0));
        }
        is("it wants no more", 0, m.pass(1));
        sentence("a seller sells one to each that is beside it");
        FloatMarket two = filled(3);
        sells(two, 1, 0, 9, 1);
        buys(two, 0, 0, 9, 20);
        buys(two, 2, 0, 9, 20);
        is("sold in one step", 2, two.pass(1));
    }

    private static void atMostItsCoins() {
        sentence("a price that is at most what this one pays and at most its coins");
        for (int coins = 0; coins <= 21; coins++) {
            for (int price = 1; price <= 20; price++) {
                FloatMarket m = market(2);
                m.moor(m.addCanoe(0, 9), 0);
                m.moor(m.addCanoe(coins, 9), 0);
                sells(m, 0, 0, 1, price);
                buys(m, 1, 0, 1, 20);
                int sold = price <= coins ? 1 : 0;
                is("sold for " + price + " with " + coins, sold, m.pass(1));
                is("its coins", coins - sold * price, m.canoe(1, 0));
            }
        }
        sentence("a canoe that asks too much does not stand in the way of another");
        FloatMarket m = filled(3);
        sells(m, 0, 0, 1, 5);
        sells(m, 2, 0, 1, 4);
        buys(m, 1, 0, 2, 4);
        is("sold", 1, m.pass(2));
        is("by the other", 1, m.canoe(2, 8));
    }

    private static void hasMoreThanItWants() {
        sentence("and has more of it than it wants itself");
        for (int wants = 0; wants <= 6; wants++) {
            FloatMarket m = pair(5, 1, 9, 1);
            m.offer(0, 0, 1, wants, 20);
            is("sold, if it wants " + wants, Math.max(0, 5 - wants), m.pass(20));
            is("it keeps", Math.min(5, wants), m.good(0, 0, 0));
        }
        FloatMarket none = filled(2);
        none.offer(0, 0, 1, 0, 0);
        buys(none, 1, 0, 9, 1);
        is("sold, if it has and wants 0", 0, none.pass(5));
    }

    private static void fromOneBeside() {
        sentence("from a canoe beside it");
        for (int[] places : new int[][] {{3, 3, 3}, {2, 2, 2, 2}, {6, 6}, {1, 3, 1, 3}}) {
            int many = filled(places).count(2);
            for (int buyer = 0; buyer < many; buyer++) {
                for (int seller = 0; seller < many; seller++) {
                    FloatMarket m = filled(places);
                    sells(m, seller, 2, 1, 1);
                    m.offer(buyer, 2, m.good(buyer, 2, 1), 1, 1);
                    int rows = Math.abs(m.canoe(buyer, 3) - m.canoe(seller, 3));
                    int apart = Math.abs(m.canoe(buyer, 4) - m.canoe(seller, 4));
                    is(buyer + " buys of " + seller, rows + apart == 1 ? 1 : 0, m.pass(1));
                }
            }
        }
        sentence("Trading asks for no tide");
        FloatMarket dry = pair(5, 1, 9, 1);
        everyTide(dry, 0);
        is("sold at dry places", 3, dry.pass(3));
    }

    /** The numbers 0 to 3 stand in each order left, right, inside and outside of the buyer 4. */
    private static void leastPriceSmallestNumber() {
        for (int order = 0; order < 24; order++) {
            int[] number = permutation(order);
            sentence("of several the one with the least price");
            for (int seller = 0; seller < 4; seller++) {
                FloatMarket m = cross(number);
                for (int other = 0; other < 4; other++) {
                    sells(m, other, 0, 1, other == seller ? 6 : 7);
                }
                m.pass(1);
                is("sold by " + seller, 1, m.canoe(seller, 8));
            }
            sentence("of several the one with the smallest number");
            FloatMarket m = cross(number);
            for (int seller = 0; seller < 4; seller++) {
                sells(m, seller, 0, 1, 7);
            }
            for (int seller = 0; seller < 4; seller++) {
                m.pass(1);
                is("sold by " + seller, 1, m.canoe(seller, 8));
            }
            is("then there is none", 0, m.pass(1));
        }
    }

    private static int[] permutation(int order) {
        int[] left = {0, 1, 2, 3};
        int[] chosen = new int[4];
        int rest = order;
        for (int i = 0; i < 4; i++) {
            int at = rest % (4 - i);
            rest /= 4 - i;
            chosen[i] = left[at];
            left[at] = left[3 - i];
        }
        return chosen;
    }

    private static FloatMarket cross(int[] number) {
        FloatMarket m = market(3, 3, 3);
        canoes(m, 7, 100, 9);
        int[] canoes = {5, number[0], number[1], 4, number[2], 6, number[3]};
        int[] rows = {0, 0, 1, 1, 1, 2, 2};
        for (int i = 0; i < 7; i++) {
            m.moor(canoes[i], rows[i]);
        }
        buys(m, 4, 0, 9, 20);
        return m;
    }

    private static void priceGoesOver() {
        sentence("The price goes from the one to the other");
        for (int price = 1; price <= 20; price++) {
            FloatMarket m = pair(5, price, 5, 20);
            m.pass(3);
            is("the seller's coins", 100 + 3 * price, m.canoe(0, 0));
            is("the buyer's coins", 100 - 3 * price, m.canoe(1, 0));
            is("coins of all", 200, m.count(5));
            is("goods of all", 5, m.count(6));
        }
    }

    private static void leavingBeforeTrading() {
        sentence("A step goes: first leaving, then trading");
        FloatMarket m = pair(9, 1, 9, 1);
        m.leaveIn(0, 2);
        is("sold till it leaves", 2, m.pass(9));
        FloatMarket between = filled(3);
        sells(between, 0, 0, 9, 1);
        buys(between, 2, 0, 9, 1);
        between.leaveIn(1, 3);
        is("none sold before the one between leaves", 0, between.pass(3));
        is("sold in the step in which it leaves", 1, between.pass(1));
        sentence("A step goes: first wakes, then trading");
        FloatMarket drifting = market(1, 1, 2);
        drifting.moor(drifting.addCanoe(5, 0), 0);
        fill(drifting, 1, 1);
        fill(drifting, 2, 1);
        sells(drifting, 2, 0, 9, 1);
        buys(drifting, 0, 0, 9, 1);
        drifting.setWater(0, 9, 1);
        holds("not beside before", !drifting.beside(0, 2));
        is("sold where it drifts to", 1, drifting.pass(1));
        isAt(drifting, 0, MOORED, 2, 1);
    }

    private static void endOfAStep() {
        sentence("The step is 1 greater");
        FloatMarket m = market();
        for (int step = 1; step <= 60; step++) {
            m.pass(1);
            is("the step", step, m.count(0));
        }
    }

    // ---- Terms: exceptions

    /** Rows of 2, 1 and 3 places, trade, wakes, dry places, one on open water and one gone. */
    private static FloatMarket busyMarket() {
        FloatMarket m = market(2, 1, 3);
        int[] ropes = {3, 5, 1, 9, 4, 2, 9};
        int[] rows = {0, 0, 1, 2, 2};
        for (int rope : ropes) {
            m.addCanoe(60, rope);
        }
        for (int canoe = 0; canoe < rows.length; canoe++) {
            m.moor(canoe, rows[canoe]);
        }
        m.moor(6, 2);
        m.leaveIn(6, 0);
        for (int canoe = 0; canoe < 6; canoe++) {
            m.load(canoe, canoe % 4, 40);
            m.offer(canoe, canoe % 4, 3 + canoe % 2, 2, 0);
            m.offer(canoe, (canoe + 1) % 4, 0, 30, 3);
            m.offer(canoe, (canoe + 3) % 4, 0, 30, 4);
        }
        for (int at = 0; at < 24; at += 5) {
            m.setWater(at, 9 - at / 3, at / 4);
        }
        m.pass(1);
        m.leaveIn(3, 20);
        m.setWater(1, 2, 0);
        return m;
    }

    /** What each method of the face may refuse. */
    private static final Deed[] REFUSED = {
        m -> m.addRow(0), m -> m.addRow(7), m -> m.setWater(-1, 1, 1), m -> m.setWater(24, 1, 1),
        m -> m.setWater(1, 10, 1), m -> m.setWater(1, 1, 10), m -> m.setWater(2, -1, 1),
        m -> m.setWater(2, 1, -1), m -> m.addCanoe(501, 1), m -> m.addCanoe(1, 10),
        m -> m.addCanoe(-1, 1), m -> m.addCanoe(1, -1), m -> m.load(7, 0, 1), m -> m.load(0, 4, 1),
        m -> m.load(0, 0, 41), m -> m.load(0, 0, 0), m -> m.load(6, 0, 1), m -> m.load(-1, 0, 1),
        m -> m.offer(7, 0, 1, 1, 1), m -> m.offer(0, 4, 1, 1, 1), m -> m.offer(0, 0, 21, 1, 1),
        m -> m.offer(0, 0, 1, 41, 1), m -> m.offer(0, 0, 1, 1, 21), m -> m.offer(0, 0, 1, 1, -1),
        m -> m.moor(5, 3), m -> m.moor(7, 2), m -> m.moor(0, 2), m -> m.moor(5, 0),
        m -> m.moor(5, 1), m -> m.moor(6, 2), m -> m.moor(5, -1), m -> m.castOff(5),
        m -> m.castOff(6), m -> m.castOff(0), m -> m.castOff(7), m -> m.castOff(-1),
        m -> m.leaveIn(0, 0),
        m -> m.leaveIn(0, -2), m -> m.leaveIn(6, 5), m -> m.leaveIn(6, -1), m -> m.leaveIn(7, 5),
        m -> m.canoe(7, 0), m -> m.canoe(0, 11), m -> m.good(7, 0, 0), m -> m.good(0, 4, 0),
        m -> m.good(0, 0, 4), m -> m.at(3, 0), m -> m.at(1, 1), m -> m.beside(7, 0) ? 1 : 0,
        m -> m.beside(0, 7) ? 1 : 0, m -> m.pass(0), m -> m.pass(201), m -> m.count(12),
        m -> m.foresee(7, 1, 0), m -> m.foresee(0, 0, 0), m -> m.foresee(0, 151, 0),
        m -> m.foresee(0, 1, 3), m -> m.full(7), m -> m.gone(7), m -> m.advise(7, 1),
        m -> m.advise(5, 0), m -> m.advise(5, 61), m -> m.advise(0, 1), m -> m.advise(6, 1),
        m -> m.price(7, 0, 1), m -> m.price(0, 4, 1), m -> m.price(0, 0, 0), m -> m.price(0, 0, 41),
    };

    private static void refusedCalls() {
        sentence("A method that throws an exception changes nothing");
        for (int i = 0; i < REFUSED.length; i++) {
            FloatMarket m = busyMarket();
            holds("call " + i + " throws", thrownBy(m, REFUSED[i]) != null);
            goesOnLikeABusyMarket("call " + i, m);
        }
        sentence("A full market that throws an exception changes nothing");
        FloatMarket full = fullMarket();
        FloatMarket twin = fullMarket();
        thrownBy(full, m -> m.addRow(1));
        for (int i = 0; i < 14; i++) {
            int canoe = i;
            thrownBy(full, m -> m.addCanoe(1, 1));
            thrownBy(full, m -> m.moor(canoe, 0));
        }
        everyWake(full, 9);
        everyWake(twin, 9);
        is("castOff", twin.castOff(0), full.castOff(0));
        full.pass(3);
        twin.pass(3);
        holds("it goes on as if not called", full.digest() == twin.digest());
    }

    private static void goesOnLikeABusyMarket(String what, FloatMarket m) {
        FloatMarket twin = busyMarket();
        holds(what + ": nothing is changed", m.digest() == twin.digest());
        for (int i = 0; i < 30; i++) {
            is(what + ": sold then", twin.pass(1), m.pass(1));
            holds(what + ": as if not called, then", m.digest() == twin.digest());
        }
        is(what + ": moored then", twin.moor(5, 1), m.moor(5, 1));
        is(what + ": the new canoe then", twin.addCanoe(1, 1), m.addCanoe(1, 1));
        is(what + ": the new row then", twin.addRow(2), m.addRow(2));
        m.pass(40);
        twin.pass(40);
        holds(what + ": as if not called, at last", m.digest() == twin.digest());
    }

    // ---- Promise 1

    private static void newObject() {
        sentence("Creates a market without rows and canoes, at the step 0");
        FloatMarket m = new FloatMarket();
        for (int what = 0; what < 12; what++) {
            is("count(" + what + ")", 0, m.count(what));
        }
        is("mean", 0, m.mean());
        refused("at", m, INDEX, x -> x.at(0, 0));
        refused("canoe", m, INDEX, x -> x.canoe(0, 0));
        is("pass", 0, m.pass(200));
        sentence("A market does not share what it holds with another");
        FloatMarket one = busyMarket();
        FloatMarket other = new FloatMarket();
        long before = other.digest();
        one.setWater(0, 1, 1);
        one.pass(9);
        one.price(0, 0, 9);
        holds("a new one is as ever", before == other.digest());
    }

    // ---- Promise 2

    private static void addRow() {
        sentence("addRow: IllegalArgumentException if places is not 1 to 6");
        bounds(ARGUMENT, 1, 6, () -> market(), FloatMarket::addRow);
        bounds(ARGUMENT, 1, 6, () -> market(6, 6, 6), FloatMarket::addRow);
        sentence("addRow: IllegalStateException if there are 4");
        for (int places = 1; places <= 6; places++) {
            int size = places;
            refused("a fifth row of " + places, market(1, 6, 1, 6), STATE, m -> m.addRow(size));
        }
        is("a fourth row", 3, market(1, 6, 1).addRow(6));
        sentence("addRow: of both the IllegalArgumentException");
        refused("a fifth row of 0", market(1, 1, 1, 1), ARGUMENT, m -> m.addRow(0));
        refused("a fifth row of 7", market(1, 1, 1, 1), ARGUMENT, m -> m.addRow(7));
        sentence("addRow: a row can be added later, too");
        FloatMarket m = filled(1);
        m.setWater(1, 9, 1);
        m.moor(m.addCanoe(0, 0), m.addRow(1));
        m.pass(1);
        is("the new row", 2, m.addRow(2));
        m.pass(1);
        isAt(m, 1, MOORED, 2, 0);
    }

    // ---- Promise 3

    private static void setWater() {
        sentence("setWater: IndexOutOfBoundsException if at is not 0 to 23");
        bounds(INDEX, 0, 23, () -> market(), (m, at) -> m.setWater(at, 5, 5));
        sentence("setWater: IllegalArgumentException if tide is not 0 to 9");
        bounds(ARGUMENT, 0, 9, () -> market(), (m, tide) -> m.setWater(0, tide, 5));
        bounds(ARGUMENT, 0, 9, () -> market(), (m, tide) -> m.setWater(23, tide, 0));
        sentence("setWater: IllegalArgumentException if wake is not 0 to 9");
        bounds(ARGUMENT, 0, 9, () -> market(), (m, wake) -> m.setWater(0, 5, wake));
        bounds(ARGUMENT, 0, 9, () -> market(), (m, wake) -> m.setWater(23, 0, wake));
        sentence("setWater: of both the IndexOutOfBoundsException");
        for (int at : new int[] {-1, 24}) {
            for (int wrongValue : new int[] {-1, 10}) {
                refused("tide", market(), INDEX, m -> m.setWater(at, wrongValue, 0));
                refused("wake", market(), INDEX, m -> m.setWater(at, 0, wrongValue));
            }
        }
        sentence("setWater: a wrong wake leaves the tide, a wrong tide the wake");
        FloatMarket half = market();
        refused("wake 10", half, ARGUMENT, m -> m.setWater(3, 1, 10));
        refused("tide 10", half, ARGUMENT, m -> m.setWater(3, 10, 1));
        is("before", 90, half.setWater(3, 9, 0));
        sentence("Returns the tide and the wake before: 10 * tide and wake");
        for (int at = 0; at < 24; at++) {
            FloatMarket m = market();
            is("at first", 90, m.setWater(at, 0, 9));
            is("0 and 9", 9, m.setWater(at, 9, 9));
            is("9 and 9", 99, m.setWater(at, 0, 0));
            is("0 and 0", 0, m.setWater(at, 3, 7));
            is("its neighbour", 90, m.setWater((at + 1) % 24, 1, 1));
            is("3 and 7", 37, m.setWater(at, 3, 7));
        }
        sentence("setWater: it holds for the step that is now, too");
        FloatMarket m = filled(1);
        m.pass(24);
        m.setWater(0, 0, 0);
        is("dry", 1, m.count(11));
    }

    // ---- Promise 4

    private static void addCanoe() {
        sentence("addCanoe: IllegalArgumentException if coins is not 0 to 500");
        bounds(ARGUMENT, 0, 500, () -> market(), (m, coins) -> m.addCanoe(coins, 5));
        sentence("addCanoe: IllegalArgumentException if rope is not 0 to 9");
        bounds(ARGUMENT, 0, 9, () -> market(), (m, rope) -> m.addCanoe(5, rope));
        sentence("addCanoe: IllegalStateException if there are 14");
        refused("a fifteenth", fullMarket(), STATE, m -> m.addCanoe(0, 0));
        refused("a fifteenth", fullMarket(), STATE, m -> m.addCanoe(500, 9));
        FloatMarket left = fullMarket();
        left.leaveIn(13, 0);
        left.pass(1);
        refused("gone ones count", left, STATE, m -> m.addCanoe(0, 0));
        FloatMarket thirteen = market();
        canoes(thirteen, 13, 0, 0);
        is("a fourteenth", 13, thirteen.addCanoe(500, 9));
        sentence("addCanoe: of both the IllegalArgumentException");
        for (int value : new int[] {-1, 501}) {
            refused("coins", fullMarket(), ARGUMENT, m -> m.addCanoe(value, 0));
            refused("rope", fullMarket(), ARGUMENT, m -> m.addCanoe(0, value));
        }
    }

    // ---- Promise 5

    private static FloatMarket twoCanoes() {
        FloatMarket m = market(2, 1);
        canoes(m, 2, 50, 5);
        m.moor(1, 0);
        return m;
    }

    private static void load() {
        sentence("load: IndexOutOfBoundsException if there is no such canoe");
        bounds(INDEX, 0, 1, () -> twoCanoes(), (m, canoe) -> m.load(canoe, 0, 1));
        refused("without canoes", market(1), INDEX, m -> m.load(0, 0, 1));
        sentence("load: IndexOutOfBoundsException if good is not 0 to 3");
        bounds(INDEX, 0, 3, () -> twoCanoes(), (m, good) -> m.load(0, good, 1));
        sentence("load: IllegalArgumentException if many is not 1 to 40");
        bounds(ARGUMENT, 1, 40, () -> twoCanoes(), (m, many) -> m.load(0, 3, many));
        sentence("load: IllegalStateException if it is gone");
        refused("gone", withOneGone(), STATE, m -> m.load(0, 0, 1));
        is("one that is not", 1, withOneGone().load(1, 0, 1));
        loadUpToHundred();
        sentence("load: of several the one that is named first");
        for (int many : new int[] {0, 41}) {
            refused("no such canoe", withOneGone(), INDEX, m -> m.load(3, 0, many));
            refused("no such good", withOneGone(), INDEX, m -> m.load(0, 4, many));
            refused("gone", withOneGone(), ARGUMENT, m -> m.load(0, 0, many));
            refused("more than 100", hundred(), ARGUMENT, m -> m.load(0, 0, many));
        }
        refused("no such good of one that is gone", withOneGone(), INDEX, m -> m.load(0, -1, 1));
    }

    private static FloatMarket hundred() {
        FloatMarket m = twoCanoes();
        m.load(0, 0, 40);
        m.load(0, 0, 40);
        m.load(0, 0, 20);
        return m;
    }

    private static void loadUpToHundred() {
        sentence("load: IllegalStateException if it would have more than 100 of it");
        for (int many = 1; many <= 40; many++) {
            int more = many;
            FloatMarket m = twoCanoes();
            m.load(0, 2, 40);
            m.load(0, 2, 21);
            if (many <= 39) {
                is("61 and " + many, 61 + many, m.load(0, 2, many));
            } else {
                refused("61 and " + many, m, STATE, x -> x.load(0, 2, more));
            }
            refused("100 and " + many, hundred(), STATE, x -> x.load(0, 0, more));
        }
        is("of another good", 40, hundred().load(0, 1, 40));
        is("of another canoe", 40, hundred().load(1, 0, 40));
        sentence("load: Returns how many of it it has then");
        FloatMarket m = twoCanoes();
        is("the first", 40, m.load(0, 0, 40));
        is("one more", 41, m.load(0, 0, 1));
        is("of the last good", 1, m.load(0, 3, 1));
        is("on a moored one", 7, m.load(1, 0, 7));
    }

    // ---- Promise 6

    private static void offer() {
        sentence("offer: IndexOutOfBoundsException if there is no such canoe");
        bounds(INDEX, 0, 1, () -> twoCanoes(), (m, canoe) -> m.offer(canoe, 0, 1, 1, 1));
        refused("without canoes", market(1), INDEX, m -> m.offer(0, 0, 1, 1, 1));
        sentence("offer: IndexOutOfBoundsException if good is not 0 to 3");
        bounds(INDEX, 0, 3, () -> twoCanoes(), (m, good) -> m.offer(0, good, 1, 1, 1));
        sentence("offer: IllegalArgumentException if price is not 0 to 20");
        bounds(ARGUMENT, 0, 20, () -> twoCanoes(), (m, price) -> m.offer(0, 0, price, 1, 1));
        sentence("offer: IllegalArgumentException if pays is not 0 to 20");
        bounds(ARGUMENT, 0, 20, () -> twoCanoes(), (m, pays) -> m.offer(0, 0, 1, 1, pays));
        sentence("offer: IllegalArgumentException if wants is not 0 to 40");
        bounds(ARGUMENT, 0, 40, () -> twoCanoes(), (m, wants) -> m.offer(0, 0, 1, wants, 1));
        sentence("offer: of both the IndexOutOfBoundsException");
        for (int value : new int[] {-1, 41}) {
            refused("canoe", twoCanoes(), INDEX, m -> m.offer(2, 0, value, 0, 0));
            refused("canoe", twoCanoes(), INDEX, m -> m.offer(-1, 0, 0, value, 0));
            refused("good", twoCanoes(), INDEX, m -> m.offer(0, 4, 0, value, 0));
            refused("good", twoCanoes(), INDEX, m -> m.offer(0, -1, 0, 0, value));
        }
        sentence("offer: a wrong one of the three leaves the others");
        FloatMarket m = twoCanoes();
        m.offer(0, 0, 1, 2, 3);
        refused("price", m, ARGUMENT, x -> x.offer(0, 0, 21, 5, 6));
        refused("wants", m, ARGUMENT, x -> x.offer(0, 0, 4, 41, 6));
        refused("pays", m, ARGUMENT, x -> x.offer(0, 0, 4, 5, 21));
        sentence("offer: Returns how many it misses then");
        is("40 of 40", 40, m.offer(1, 3, 0, 40, 0));
        m.load(1, 3, 40);
        is("0 of 40", 0, m.offer(1, 3, 20, 40, 20));
        is("less than it has", 0, m.offer(1, 3, 20, 0, 20));
        is("of this good alone", 7, m.offer(1, 2, 20, 7, 20));
        is("both", 8, m.offer(1, 1, 1, 8, 1));
        sentence("offer: no exception is named for one that is gone or on open water");
        is("gone", 9, withOneGone().offer(0, 0, 1, 9, 1));
        is("on open water", 9, twoCanoes().offer(0, 0, 1, 9, 1));
    }

    // ---- Promise 7

    private static void moor() {
        sentence("moor: IndexOutOfBoundsException if there is no such canoe");
        Maker open = () -> {
            FloatMarket m = market(6, 6);
            canoes(m, 3, 0, 0);
            return m;
        };
        bounds(INDEX, 0, 2, open, (m, canoe) -> m.moor(canoe, 0));
        refused("without canoes", market(1), INDEX, m -> m.moor(0, 0));
        sentence("moor: IndexOutOfBoundsException if there is no such row");
        bounds(INDEX, 0, 1, open, (m, row) -> m.moor(0, row));
        FloatMarket without = market();
        without.addCanoe(0, 0);
        refused("without rows", without, INDEX, m -> m.moor(0, 0));
        sentence("moor: IllegalStateException if it is not on open water");
        refused("moored, in its row", filled(3, 3), STATE, m -> m.moor(3, 1));
        FloatMarket moored = market(2, 2);
        fill(moored, 0, 1);
        refused("moored, in its row, which has a free place", moored, STATE, m -> m.moor(0, 0));
        refused("moored, in another row", moored, STATE, m -> m.moor(0, 1));
        refused("gone", withOneGone(), STATE, m -> m.moor(0, 0));
        moorInFullRows();
        sentence("moor: of both the IndexOutOfBoundsException");
        refused("no such row, moored", filled(1), INDEX, m -> m.moor(0, 1));
        refused("no such row, gone", withOneGone(), INDEX, m -> m.moor(0, -1));
        refused("no such canoe, full row", filled(1), INDEX, m -> m.moor(1, 0));
        sentence("moor: no tide is asked for");
        FloatMarket dry = open.make();
        everyTide(dry, 0);
        is("at a dry place", 0, dry.moor(0, 1));
    }

    private static void moorInFullRows() {
        for (int places = 1; places <= 6; places++) {
            FloatMarket m = market(places, 1);
            fill(m, 0, places - 1);
            canoes(m, 2, 0, 0);
            int late = places;
            sentence("moor: Returns its place");
            is("the last place", places - 1, m.moor(places - 1, 0));
            sentence("moor: IllegalStateException if the row is full");
            refused("a full row of " + places, m, STATE, x -> x.moor(late, 0));
            is("in another row", 0, m.moor(late, 1));
            m.castOff(0);
            is("in the row that is not full any more", places - 1, m.moor(0, 0));
        }
    }

    // ---- Promise 8

    private static void castOff() {
        sentence("castOff: IndexOutOfBoundsException if there is no such canoe");
        bounds(INDEX, 0, 2, () -> filled(3), FloatMarket::castOff);
        refused("without canoes", market(1), INDEX, m -> m.castOff(0));
        sentence("castOff: IllegalStateException if it is not moored");
        refused("new", twoCanoes(), STATE, m -> m.castOff(0));
        FloatMarket twice = filled(2);
        twice.castOff(0);
        refused("cast off before", twice, STATE, m -> m.castOff(0));
        refused("gone", withOneGone(), STATE, m -> m.castOff(0));
        sentence("castOff: or its place is dry (by the tide of the step that is now)");
        FloatMarket m = filled(2);
        m.setWater(0, 4, 0);
        m.setWater(1, 3, 0);
        m.setWater(2, 4, 0);
        is("not dry in the step 0", 1, m.castOff(0));
        m.moor(0, 0);
        m.pass(1);
        refused("dry in the step 1", m, STATE, x -> x.castOff(1));
        is("the place 1 is not", 0, m.castOff(0));
        m.moor(0, 0);
        m.pass(1);
        is("not dry in the step 2", 1, m.castOff(1));
        sentence("castOff: it is on open water then");
        isAt(m, 1, 0, -1, -1);
        is("it can be moored again", 1, m.moor(1, 0));
        sentence("castOff: it keeps its leaving step, its coins and goods");
        FloatMarket kept = busyMarket();
        kept.setWater(1, 9, 0);
        int[] same = {0, 1, 5, 6, 7, 8, 9, 10};
        int[] before = new int[11];
        for (int what : same) {
            before[what] = kept.canoe(3, what);
        }
        is("Returns how many are loosened", 1, kept.castOff(3));
        for (int what : same) {
            is("canoe(3, " + what + ")", before[what], kept.canoe(3, what));
        }
    }

    // ---- Promise 9

    private static void leaveIn() {
        sentence("leaveIn: IndexOutOfBoundsException if there is no such canoe");
        bounds(INDEX, 0, 1, () -> twoCanoes(), (m, canoe) -> m.leaveIn(canoe, 3));
        refused("without canoes", market(1), INDEX, m -> m.leaveIn(0, 3));
        sentence("leaveIn: IllegalArgumentException if step is not -1, and earlier than now");
        for (int now : new int[] {0, 1, 2, 24, 200}) {
            FloatMarket m = filled(1);
            if (now > 0) {
                m.pass(now);
            }
            for (int step : new int[] {LEAST, -3, -2, now - 1}) {
                if (step != -1) {
                    refused(step + " in the step " + now, m, ARGUMENT, x -> x.leaveIn(0, step));
                }
            }
            is("the step now", -1, m.leaveIn(0, now));
            is("the next one", now, m.leaveIn(0, now + 1));
            is("the last one", now + 1, m.leaveIn(0, MOST));
            is("none", MOST, m.leaveIn(0, -1));
            is("none again", -1, m.leaveIn(0, -1));
        }
        sentence("leaveIn: IllegalStateException if it is gone");
        refused("a step", withOneGone(), STATE, m -> m.leaveIn(0, 1));
        refused("none", withOneGone(), STATE, m -> m.leaveIn(0, -1));
        is("on open water", -1, twoCanoes().leaveIn(0, 0));
        is("moored", -1, twoCanoes().leaveIn(1, 0));
        sentence("leaveIn: of several the one that is named first");
        refused("earlier, gone", withOneGone(), ARGUMENT, m -> m.leaveIn(0, 0));
        refused("-2, gone", withOneGone(), ARGUMENT, m -> m.leaveIn(0, -2));
        refused("earlier, no such canoe", withOneGone(), INDEX, m -> m.leaveIn(3, 0));
        sentence("leaveIn: Returns the step in which it was to leave, also if it is past");
        FloatMarket late = filled(1);
        everyTide(late, 0);
        late.leaveIn(0, 2);
        late.pass(5);
        is("it was to leave in", 2, late.leaveIn(0, 7));
        is("now in", 7, late.canoe(0, 5));
    }

    // ---- Promise 10

    private static void canoe() {
        sentence("canoe: IndexOutOfBoundsException if there is no such canoe");
        bounds(INDEX, 0, 13, () -> fullMarket(), (m, canoe) -> m.canoe(canoe, 0));
        bounds(INDEX, 0, 0, () -> filled(1), (m, canoe) -> m.canoe(canoe, 10));
        refused("without canoes", market(1), INDEX, m -> m.canoe(0, 0));
        sentence("canoe: or what is not 0 to 10");
        bounds(INDEX, 0, 10, () -> filled(1), (m, what) -> m.canoe(0, what));
        canoeTellsWhere();
        canoeTellsSteps();
        canoeTellsHowOften();
        canoeTellsTrade();
    }

    private static void canoeTellsWhere() {
        sentence("canoe: 3 its row, 4 its place (3 and 4: -1 if it is not moored)");
        FloatMarket m = fullMarket();
        isAt(m, 0, MOORED, 0, 0);
        isAt(m, 4, MOORED, 0, 4);
        isAt(m, 5, MOORED, 1, 0);
        isAt(m, 13, MOORED, 3, 4);
        m.castOff(13);
        isAt(m, 13, 0, -1, -1);
        m.leaveIn(5, 0);
        m.pass(1);
        isAt(m, 5, GONE, -1, -1);
        FloatMarket torn = market(1);
        torn.moor(torn.addCanoe(0, 0), 0);
        torn.setWater(0, 9, 1);
        torn.pass(1);
        isAt(torn, 0, 0, -1, -1);
    }

    private static void canoeTellsSteps() {
        sentence("canoe: 5 the step in which it is to leave, -1 for none");
        FloatMarket m = filled(2);
        is("at first", -1, m.canoe(0, 5));
        m.leaveIn(0, 0);
        is("told the step 0", 0, m.canoe(0, 5));
        is("the other", -1, m.canoe(1, 5));
        sentence("canoe: 5 (of one that is gone: as it was told)");
        m.setWater(0, 0, 0);
        m.pass(2);
        is("gone in the step 1, told 0", 0, m.canoe(0, 5));
        is("it is gone", GONE, m.canoe(0, 2));
        m.leaveIn(1, 7);
        m.pass(9);
        is("gone, told 7", 7, m.canoe(1, 5));
    }

    private static void canoeTellsHowOften() {
        sentence("canoe: 6 how often it was loosened");
        FloatMarket m = filled(6);
        for (int canoe = 0; canoe < 5; canoe++) {
            m.castOff(canoe);
            is("the outermost", canoe + 1, m.canoe(5, 6));
            is("the one that cast off", canoe, m.canoe(canoe, 6));
        }
        m.castOff(5);
        is("on open water", 5, m.canoe(5, 6));
        is("drifts", 0, m.canoe(5, 7));
        sentence("canoe: 7 how often it drifted");
        FloatMarket drifting = market(2, 2);
        drifting.moor(drifting.addCanoe(0, 0), 0);
        fill(drifting, 0, 1);
        drifting.castOff(0);
        drifting.moor(0, 0);
        everyWake(drifting, 1);
        drifting.pass(3);
        is("it drifted", 3, drifting.canoe(0, 7));
        is("the one inside", 0, drifting.canoe(1, 7));
        is("it was not loosened by that", 0, drifting.canoe(0, 6));
        is("nor the one inside of it", 1, drifting.canoe(1, 6) + drifting.canoe(0, 6));
    }

    private static void canoeTellsTrade() {
        sentence("canoe: 8 goods that it sold, 9 goods that it bought");
        FloatMarket m = pair(3, 2, 9, 2);
        m.load(1, 3, 2);
        m.offer(1, 3, 1, 0, 0);
        m.offer(0, 3, 0, 1, 1);
        is("sold in all", 2, m.pass(1));
        m.pass(9);
        is("sold by the first", 3, m.canoe(0, 8));
        is("bought by the first", 1, m.canoe(0, 9));
        is("sold by the second", 1, m.canoe(1, 8));
        is("bought by the second", 3, m.canoe(1, 9));
        sentence("canoe: 10 what it misses of all goods, added");
        is("it misses", 6, m.canoe(1, 10));
        m.offer(1, 1, 0, 40, 0);
        m.offer(1, 2, 0, 40, 0);
        is("of more goods", 86, m.canoe(1, 10));
        for (int good = 0; good < 4; good++) {
            m.offer(0, good, 0, 40, 0);
        }
        is("of all four, it has one", 159, m.canoe(0, 10));
    }

    // ---- Promise 11

    private static void good() {
        sentence("good: IndexOutOfBoundsException if there is no such canoe");
        bounds(INDEX, 0, 13, () -> fullMarket(), (m, canoe) -> m.good(canoe, 3, 3));
        refused("without canoes", market(1), INDEX, m -> m.good(0, 0, 0));
        sentence("good: good is not 0 to 3");
        bounds(INDEX, 0, 3, () -> filled(1), (m, good) -> m.good(0, good, 0));
        sentence("good: or what is not 0 to 3");
        bounds(INDEX, 0, 3, () -> filled(1), (m, what) -> m.good(0, 0, what));
        sentence("good: 0 how many it has, 1 its price, 2 how many it wants, 3 how much it pays");
        FloatMarket m = filled(2);
        for (int good = 0; good < 4; good++) {
            m.load(1, good, 10 + good);
            m.offer(1, good, 5 + good, 30 + good, 16 + good);
        }
        for (int good = 0; good < 4; good++) {
            int[] due = {10 + good, 5 + good, 30 + good, 16 + good};
            for (int what = 0; what < 4; what++) {
                is("good(1, " + good + ", " + what + ")", due[what], m.good(1, good, what));
                is("of the other canoe", 0, m.good(0, good, what));
            }
        }
        sentence("good: of one that is gone, as it was");
        FloatMarket left = withOneGone();
        left.offer(0, 3, 20, 40, 19);
        is("price", 20, left.good(0, 3, 1));
        is("wants", 40, left.good(0, 3, 2));
        is("pays", 19, left.good(0, 3, 3));
    }

    // ---- Promise 12

    private static void at() {
        sentence("at: IndexOutOfBoundsException if there is no such row");
        bounds(INDEX, 0, 3, () -> fullMarket(), (m, row) -> m.at(row, 0));
        bounds(INDEX, 0, 0, () -> market(1), (m, row) -> m.at(row, 0));
        refused("without rows", market(), INDEX, m -> m.at(0, 0));
        sentence("at: IndexOutOfBoundsException if there is no such place");
        for (int places = 1; places <= 6; places++) {
            int size = places;
            bounds(INDEX, 0, places - 1, () -> market(size), (m, place) -> m.at(0, place));
            bounds(INDEX, 0, places - 1, () -> market(6, size, 6), (m, place) -> m.at(1, place));
        }
        sentence("at: Returns the canoe there; -1 if it is free");
        FloatMarket m = market(6, 6);
        rowIs(m, 0, -1, -1, -1, -1, -1, -1);
        fill(m, 1, 6);
        rowIs(m, 0, -1, -1, -1, -1, -1, -1);
        rowIs(m, 1, 0, 1, 2, 3, 4, 5);
        for (int canoe = 0; canoe < 6; canoe++) {
            m.castOff(canoe);
        }
        rowIs(m, 1, -1, -1, -1, -1, -1, -1);
    }

    // ---- Promise 13

    private static void beside() {
        sentence("beside: IndexOutOfBoundsException if there is no such canoe");
        bounds(INDEX, 0, 13, () -> fullMarket(), (m, a) -> m.beside(a, 0) ? 1 : 0);
        bounds(INDEX, 0, 13, () -> fullMarket(), (m, b) -> m.beside(0, b) ? 1 : 0);
        bounds(INDEX, 0, 1, () -> twoCanoes(), (m, b) -> m.beside(0, b) ? 1 : 0);
        bounds(INDEX, 0, 1, () -> twoCanoes(), (m, a) -> m.beside(a, 1) ? 1 : 0);
        refused("without canoes", market(1), INDEX, m -> m.beside(0, 0) ? 1 : 0);
        sentence("beside: none is beside itself");
        FloatMarket m = fullMarket();
        for (int canoe = 0; canoe < 14; canoe++) {
            holds("beside itself", !m.beside(canoe, canoe));
        }
    }

    // ---- Promise 14

    private static void pass() {
        sentence("pass: IllegalArgumentException if steps is not 1 to 200");
        bounds(ARGUMENT, 1, 200, () -> market(), FloatMarket::pass);
        bounds(ARGUMENT, 1, 200, () -> filled(2), FloatMarket::pass);
        sentence("pass: Lets steps go by, so many");
        for (int steps : new int[] {1, 2, 24, 199, 200}) {
            FloatMarket m = filled(1);
            m.pass(steps);
            is("the step", steps, m.count(0));
            FloatMarket one = busyMarket();
            FloatMarket other = busyMarket();
            one.pass(steps);
            for (int i = 0; i < steps; i++) {
                other.pass(1);
            }
            holds("one by one it comes to the same", one.digest() == other.digest());
        }
        sentence("pass: Returns how many goods are sold in them");
        FloatMarket m = pair(9, 1, 7, 1);
        is("in the first 2 steps", 2, m.pass(2));
        is("in the next one", 1, m.pass(1));
        is("in the next 200", 4, m.pass(200));
        is("then", 0, m.pass(200));
        is("in the first 200", 7, pair(9, 1, 7, 1).pass(200));
    }

    // ---- Promise 15

    private static void count() {
        sentence("count: IndexOutOfBoundsException if what is not 0 to 11");
        bounds(INDEX, 0, 11, () -> market(), FloatMarket::count);
        bounds(INDEX, 0, 11, () -> fullMarket(), FloatMarket::count);
        sentence("count: of the full market");
        counts(fullMarket(), 0, 4, 14, 14, 0, 1400, 0, 0, 0, 0, 0, 0);
        countsWhatIsThere();
        countsWhatWas();
        sentence("count: 11 dry places where canoes are moored, by the tide of the step now");
        FloatMarket m = fullMarket();
        m.setWater(0, 0, 0);
        is("in the step 0", 4 + 1 + 3 + 4, m.count(11));
        m.pass(1);
        is("in the step 1", 0, m.count(11));
        m.setWater(1, 3, 0);
        is("with the tide 3", 4, m.count(11));
        m.castOff(13);
        m.setWater(1, 0, 0);
        is("with the tide 0", 4 + 1 + 3 + 4, m.count(11));
    }

    private static void counts(FloatMarket m, int... due) {
        for (int what = 0; what < due.length; what++) {
            is("count(" + what + ")", due[what], m.count(what));
        }
    }

    private static void countsWhatIsThere() {
        sentence("count: 3 those that are moored, 4 those that are gone");
        FloatMarket m = withOneGone();
        m.addCanoe(7, 0);
        counts(m, 1, 1, 4, 1, 2);
        m.moor(3, 0);
        counts(m, 1, 1, 4, 2, 2);
        m.castOff(1);
        counts(m, 1, 1, 4, 1, 2);
        sentence("count: 5 coins of all canoes");
        is("moored, gone and on open water", 307, m.count(5));
        sentence("count: 6 goods of all canoes");
        FloatMarket loaded = filled(3);
        for (int canoe = 0; canoe < 3; canoe++) {
            for (int good = 0; good < 4; good++) {
                loaded.load(canoe, good, 1 + good + 10 * canoe);
            }
        }
        loaded.leaveIn(0, 0);
        loaded.castOff(1);
        loaded.pass(1);
        is("moored, gone and on open water", 10 + 50 + 90, loaded.count(6));
    }

    private static void countsWhatWas() {
        sentence("count: 7 goods that were sold in all, 8 coins that were paid for them");
        FloatMarket m = pair(9, 20, 2, 20);
        m.pass(5);
        is("sold", 2, m.count(7));
        is("paid", 40, m.count(8));
        m.offer(0, 0, 1, 0, 0);
        m.offer(1, 0, 0, 3, 1);
        m.pass(5);
        is("sold", 3, m.count(7));
        is("paid", 41, m.count(8));
        m.leaveIn(0, m.count(0));
        m.pass(1);
        is("sold, when the seller is gone", 3, m.count(7));
        sentence("count: 9 how often canoes were loosened, 10 how often canoes drifted");
        FloatMarket moving = market(3, 3);
        fill(moving, 0, 2);
        moving.moor(moving.addCanoe(0, 0), 0);
        moving.castOff(0);
        is("loosened by castOff", 2, moving.count(9));
        moving.leaveIn(1, 0);
        moving.pass(1);
        is("loosened by leaving", 3, moving.count(9));
        is("drifts", 0, moving.count(10));
        everyWake(moving, 1);
        moving.pass(2);
        is("drifts", 2, moving.count(10));
        is("loosened by drifting", 3, moving.count(9));
    }

    // ---- Promises 16 to 20, by what comes when the same is done

    /** Each row and each place taken by the fourteen, who trade, drift and leave. */
    private static FloatMarket crowd() {
        FloatMarket m = market(6, 6, 1, 1);
        for (int canoe = 0; canoe < 14; canoe++) {
            m.addCanoe(30 + canoe, (canoe * 3 + 1) % 10);
            m.moor(canoe, canoe < 6 ? 0 : canoe < 12 ? 1 : canoe - 10);
            m.load(canoe, canoe % 4, 20);
            m.offer(canoe, canoe % 4, 2 + canoe % 3, 1, 0);
            m.offer(canoe, (canoe + 1) % 4, 0, 3 + canoe, 3);
            m.offer(canoe, (canoe + 2) % 4, 0, 1, 4);
            m.offer(canoe, (canoe + 3) % 4, 0, 4, 4);
        }
        for (int at = 0; at < 24; at += 4) {
            m.setWater(at, at % 5, at % 7);
        }
        for (int canoe = 1; canoe < 14; canoe += 3) {
            m.leaveIn(canoe, 60 - 4 * canoe);
        }
        return m;
    }

    private static FloatMarket crowdBehind(int steps) {
        FloatMarket m = crowd();
        if (steps > 0) {
            m.pass(steps);
        }
        return m;
    }

    private static void lookingAheadInAFullMarket() {
        for (int now : new int[] {0, 13, 30}) {
            for (int canoe = 0; canoe < 14; canoe++) {
                foreseenInTheCrowd(canoe, now);
                sentence("full and gone: if nothing is done, in a full market");
                FloatMarket m = crowdBehind(now);
                is("full of " + canoe, stepsUntil(canoe, 10, 0, now), m.full(canoe));
                is("gone of " + canoe, stepsUntil(canoe, 2, GONE, now), m.gone(canoe));
                pricedInTheCrowd(canoe, now);
                if (m.canoe(canoe, 2) == 0) {
                    advisedInTheCrowd(canoe, now);
                }
            }
        }
        sentence("advise: in a crowd of fourteen canoes one is on open water");
        holds("the last one is", crowdBehind(13).canoe(13, 2) == 0);
    }

    private static void foreseenInTheCrowd(int canoe, int now) {
        sentence("foresee: if nothing is done, in a full market");
        for (int steps : new int[] {1, 9, 149, 150}) {
            FloatMarket then = crowdBehind(now);
            then.pass(steps);
            FloatMarket m = crowdBehind(now);
            is("coins of " + canoe, then.canoe(canoe, 0), m.foresee(canoe, steps, 0));
            is("misses of " + canoe, then.canoe(canoe, 10), m.foresee(canoe, steps, 1));
            is("row of " + canoe, then.canoe(canoe, 3), m.foresee(canoe, steps, 2));
        }
    }

    private static int stepsUntil(int canoe, int what, int due, int now) {
        FloatMarket m = crowdBehind(now);
        for (int steps = 0; steps <= 150; steps++) {
            if (m.canoe(canoe, what) == due) {
                return steps;
            }
            m.pass(1);
        }
        return -1;
    }

    private static void pricedInTheCrowd(int canoe, int now) {
        sentence("price: nothing else is done, in a full market");
        for (int good = 0; good < 4; good++) {
            int best = 0;
            int most = -1;
            for (int price = 1; price <= 20; price++) {
                FloatMarket m = crowdBehind(now);
                m.offer(canoe, good, price, m.good(canoe, good, 2), m.good(canoe, good, 3));
                m.pass(11);
                if (m.canoe(canoe, 8) > most) {
                    most = m.canoe(canoe, 8);
                    best = price;
                }
            }
            is("price of " + canoe, best, crowdBehind(now).price(canoe, good, 11));
        }
    }

    private static void advisedInTheCrowd(int canoe, int now) {
        sentence("advise: nothing else is done, in a full market");
        for (int steps : new int[] {1, 12, 60}) {
            int best = -1;
            int most = -1;
            for (int row = 0; row < 4; row++) {
                int into = row;
                FloatMarket m = crowdBehind(now);
                if (thrownBy(m, x -> x.moor(canoe, into)) == null) {
                    m.pass(steps);
                    if (m.canoe(canoe, 0) > most) {
                        most = m.canoe(canoe, 0);
                        best = row;
                    }
                }
            }
            is("row for " + canoe, best, crowdBehind(now).advise(canoe, steps));
        }
    }

    // ---- Promise 16

    private static void foresee() {
        sentence("foresee: IndexOutOfBoundsException if there is no such canoe");
        bounds(INDEX, 0, 13, () -> fullMarket(), (m, canoe) -> m.foresee(canoe, 1, 0));
        refused("without canoes", market(1), INDEX, m -> m.foresee(0, 1, 0));
        sentence("foresee: or what is not 0 to 2");
        bounds(INDEX, 0, 2, () -> filled(1), (m, what) -> m.foresee(0, 1, what));
        sentence("foresee: IllegalArgumentException if steps is not 1 to 150");
        bounds(ARGUMENT, 1, 150, () -> filled(1), (m, steps) -> m.foresee(0, steps, 0));
        sentence("foresee: of both the IndexOutOfBoundsException");
        for (int steps : new int[] {0, 151}) {
            refused("canoe", filled(1), INDEX, m -> m.foresee(1, steps, 0));
            refused("what", filled(1), INDEX, m -> m.foresee(0, steps, 3));
        }
        foreseeIsWhatPassDoes();
        foreseeWhere();
        foreseeTheLastStep();
        looksAhead("foresee", m -> m.foresee(0, 150, 0) + m.foresee(3, 30, 2));
    }

    /** After the look ahead the market stands, and goes on, as one that was not asked. */
    private static void looksAhead(String name, Deed look) {
        sentence(name + ": (nothing is changed)");
        FloatMarket m = busyMarket();
        taken("the call", m, look);
        double mean = m.mean();
        is("the mean", busyMarket().mean(), mean);
        goesOnLikeABusyMarket(name, m);
        FloatMarket again = busyMarket();
        is("the same answer twice", look.on(again), look.on(again));
    }

    private static void foreseeIsWhatPassDoes() {
        sentence("foresee: 0 the coins that it has then, 1 what it misses of all goods then");
        for (int steps : new int[] {1, 2, 23, 24, 25, 149, 150}) {
            FloatMarket then = busyMarket();
            then.pass(steps);
            FloatMarket m = busyMarket();
            for (int canoe = 0; canoe < 7; canoe++) {
                is("coins of " + canoe, then.canoe(canoe, 0), m.foresee(canoe, steps, 0));
                is("it misses", then.canoe(canoe, 10), m.foresee(canoe, steps, 1));
                is("its row", then.canoe(canoe, 3), m.foresee(canoe, steps, 2));
            }
        }
    }

    private static void foreseeWhere() {
        sentence("foresee: 2 the row where it is moored then, -1 for none");
        FloatMarket m = withOneGone();
        m.addCanoe(0, 0);
        is("gone", -1, m.foresee(0, 1, 2));
        is("moored", 0, m.foresee(1, 1, 2));
        is("on open water", -1, m.foresee(3, 1, 2));
        m.leaveIn(1, 4);
        is("before it leaves", 0, m.foresee(1, 3, 2));
        is("when it has left", -1, m.foresee(1, 4, 2));
        FloatMarket torn = market(1);
        torn.moor(torn.addCanoe(0, 0), 0);
        torn.setWater(2, 9, 1);
        is("before the wake", 0, torn.foresee(0, 2, 2));
        is("torn loose", -1, torn.foresee(0, 3, 2));
        FloatMarket drifting = market(1, 1, 1, 1);
        drifting.moor(drifting.addCanoe(0, 0), 3);
        drifting.setWater(0, 9, 1);
        for (int steps = 1; steps <= 150; steps++) {
            is("rows round behind " + steps, (3 + (steps + 23) / 24) % 4,
                    drifting.foresee(0, steps, 2));
        }
    }

    private static void foreseeTheLastStep() {
        sentence("foresee: behind so many steps, the last one too");
        for (int steps : new int[] {1, 2, 24, 25, 149, 150}) {
            FloatMarket m = sellerComesIn(steps - 1);
            is("coins behind " + steps, 99, m.foresee(0, steps, 0));
            is("it misses behind " + steps, 0, m.foresee(0, steps, 1));
            if (steps > 1) {
                is("coins one step earlier", 100, m.foresee(0, steps - 1, 0));
                is("it misses one step earlier", 1, m.foresee(0, steps - 1, 1));
            }
        }
        is("the step behind the last one", 100, sellerComesIn(150).foresee(0, 150, 0));
    }

    /** The buyer 0 gets what it misses in this step, when the one between leaves. */
    private static FloatMarket sellerComesIn(int step) {
        FloatMarket m = filled(3);
        buys(m, 0, 0, 1, 1);
        sells(m, 2, 0, 1, 1);
        m.leaveIn(1, step);
        return m;
    }

    // ---- Promise 17

    private static void full() {
        sentence("full: IndexOutOfBoundsException if there is no such canoe");
        bounds(INDEX, 0, 13, () -> fullMarket(), FloatMarket::full);
        bounds(INDEX, 0, 0, () -> filled(1), FloatMarket::full);
        refused("without canoes", market(1), INDEX, m -> m.full(0));
        sentence("full: 0 if it does now");
        FloatMarket m = pair(9, 1, 5, 1);
        is("wants nothing", 0, m.full(0));
        m.load(1, 0, 4);
        is("misses one", 1, m.full(1));
        m.load(1, 0, 1);
        is("misses none", 0, m.full(1));
        m.load(1, 0, 1);
        is("has more", 0, m.full(1));
        FloatMarket left = withOneGone();
        is("gone", 0, left.full(0));
        left.addCanoe(0, 0);
        is("on open water", 0, left.full(3));
        sentence("full: behind how many steps it misses nothing, at most 150");
        for (int step = 0; step < 150; step++) {
            is("in the step " + step, step + 1, sellerComesIn(step).full(0));
        }
        sentence("full: -1 if not by then");
        is("in the step 150", -1, sellerComesIn(150).full(0));
        is("in the step 151", -1, sellerComesIn(151).full(0));
        is("never", -1, pair(4, 1, 5, 1).full(1));
        left.offer(0, 0, 0, 1, 1);
        is("gone, and misses one", -1, left.full(0));
        sentence("full: all goods count");
        FloatMarket goods = pair(9, 1, 2, 1);
        sells(goods, 0, 3, 9, 1);
        buys(goods, 1, 3, 6, 1);
        is("two goods", 6, goods.full(1));
        sentence("full: from the step that is now");
        FloatMarket later = sellerComesIn(160);
        later.pass(10);
        is("behind 151", -1, later.full(0));
        later.pass(1);
        is("behind 150", 150, later.full(0));
        looksAhead("full", x -> x.full(0) + x.full(1) + x.full(5));
    }

    // ---- Promise 18

    private static void gone() {
        sentence("gone: IndexOutOfBoundsException if there is no such canoe");
        bounds(INDEX, 0, 13, () -> fullMarket(), FloatMarket::gone);
        bounds(INDEX, 0, 0, () -> filled(1), FloatMarket::gone);
        refused("without canoes", market(1), INDEX, m -> m.gone(0));
        sentence("gone: 0 if it is");
        is("gone", 0, withOneGone().gone(0));
        is("moored", -1, withOneGone().gone(1));
        sentence("gone: behind how many steps it is gone, at most 150");
        FloatMarket m = filled(1);
        for (int step = 0; step < 150; step++) {
            m.leaveIn(0, step);
            is("in the step " + step, step + 1, m.gone(0));
        }
        sentence("gone: -1 if not by then");
        for (int step : new int[] {150, 151, MOST, -1}) {
            m.leaveIn(0, step);
            is("in the step " + step, -1, m.gone(0));
        }
        FloatMarket dry = filled(1);
        everyTide(dry, 3);
        dry.leaveIn(0, 0);
        is("always dry", -1, dry.gone(0));
        dry.setWater(23, 4, 0);
        is("wet in the step 23", 24, dry.gone(0));
        FloatMarket open = twoCanoes();
        open.leaveIn(0, 0);
        is("on open water", -1, open.gone(0));
        sentence("gone: from the step that is now");
        FloatMarket later = filled(1);
        later.leaveIn(0, 160);
        later.pass(10);
        is("in the step 160, now 10", -1, later.gone(0));
        later.pass(1);
        is("in the step 160, now 11", 150, later.gone(0));
        looksAhead("gone", x -> x.gone(3) + x.gone(6) + x.gone(0));
    }

    // ---- Promise 19

    private static FloatMarket oneOnOpenWater(int... places) {
        FloatMarket m = market(places);
        m.addCanoe(10, 9);
        return m;
    }

    private static void advise() {
        sentence("advise: IndexOutOfBoundsException if there is no such canoe");
        Maker open = () -> {
            FloatMarket m = market(2, 2);
            canoes(m, 14, 0, 0);
            return m;
        };
        bounds(INDEX, 0, 13, open, (m, canoe) -> m.advise(canoe, 1));
        bounds(INDEX, 0, 0, () -> oneOnOpenWater(1), (m, canoe) -> m.advise(canoe, 1));
        refused("without canoes", market(1), INDEX, m -> m.advise(0, 1));
        sentence("advise: IllegalArgumentException if steps is not 1 to 60");
        bounds(ARGUMENT, 1, 60, () -> oneOnOpenWater(1), (m, steps) -> m.advise(0, steps));
        bounds(ARGUMENT, 1, 60, () -> oneOnOpenWater(), (m, steps) -> m.advise(0, steps));
        sentence("advise: IllegalStateException if it is not on open water");
        refused("moored", twoCanoes(), STATE, m -> m.advise(1, 1));
        refused("gone", withOneGone(), STATE, m -> m.advise(0, 60));
        FloatMarket back = filled(1);
        back.castOff(0);
        is("on open water again", 0, back.advise(0, 1));
        sentence("advise: of several the one that is named first");
        for (int steps : new int[] {0, 61}) {
            refused("no such canoe", twoCanoes(), INDEX, m -> m.advise(2, steps));
            refused("moored", twoCanoes(), ARGUMENT, m -> m.advise(1, steps));
            refused("gone", withOneGone(), ARGUMENT, m -> m.advise(0, steps));
        }
        adviseFullRows();
        adviseMostCoins();
        adviseTheLastStep();
        looksAhead("advise", m -> m.advise(5, 60) + m.advise(5, 1));
    }

    private static void adviseFullRows() {
        sentence("advise: -1 if there is none");
        is("without rows", -1, oneOnOpenWater().advise(0, 60));
        sentence("advise: -1 if all are full");
        FloatMarket full = filled(1, 2, 1, 3);
        full.addCanoe(10, 9);
        is("four full rows", -1, full.advise(7, 60));
        is("of one full row", -1, adviseIn(filled(6)));
        sentence("advise: a row that is full is not advised, one with a place is");
        int[] outermost = {0, 2, 3, 6};
        for (int row = 0; row < 4; row++) {
            FloatMarket m = filled(1, 2, 1, 3);
            m.addCanoe(10, 9);
            m.castOff(outermost[row]);
            is("a place in the row " + row, row, m.advise(7, 1));
        }
        sentence("advise: where it moors now counts, not where a place comes free later");
        FloatMarket later = filled(1, 2);
        later.addCanoe(10, 9);
        later.leaveIn(0, 0);
        is("all are full now", -1, later.advise(3, 60));
    }

    private static int adviseIn(FloatMarket m) {
        return m.advise(m.addCanoe(10, 9), 30);
    }

    private static void adviseMostCoins() {
        sentence("advise: of several the one with the smallest number");
        is("nothing is traded", 0, adviseIn(market(2, 2, 2, 2)));
        FloatMarket occupied = filled(1, 1, 1);
        occupied.castOff(1);
        occupied.castOff(2);
        is("the row 0 is full", 1, occupied.advise(1, 60));
        FloatMarket both = market(1, 2);
        fill(both, 1, 1);
        is("beside the buyer from each row", 0, sellerFor(both, 0).advise(1, 60));
        FloatMarket poor = market(2, 2);
        fill(poor, 0, 1);
        poor.addCanoe(0, 9);
        is("no coins in each", 0, poor.advise(1, 60));
        sentence("advise: so that it has the most coins");
        for (int best = 0; best < 4; best++) {
            is("beside the only buyer", best, sellerFor(oneInEach(), best).advise(4, 1));
            is("beside the only buyer, 60 steps", best, sellerFor(oneInEach(), best).advise(4, 60));
        }
        FloatMarket between = market(1, 2, 1, 2);
        fill(between, 1, 1);
        fill(between, 3, 1);
        buys(between, 0, 0, 9, 3);
        is("beside two buyers", 2, sellerFor(between, 1).advise(2, 1));
        adviseLeastLoss();
    }

    /** Four rows of two places with one canoe each: a new one comes beside this one alone. */
    private static FloatMarket oneInEach() {
        FloatMarket m = market(2, 2, 2, 2);
        for (int row = 0; row < 4; row++) {
            fill(m, row, 1);
        }
        return m;
    }

    /** Adds a canoe that sells what the buyer wants. */
    private static FloatMarket sellerFor(FloatMarket m, int buyer) {
        buys(m, buyer, 0, 9, 3);
        sells(m, m.addCanoe(0, 9), 0, 20, 3);
        return m;
    }

    private static void adviseLeastLoss() {
        sentence("advise: the most coins, also where it loses some");
        FloatMarket two = market(2, 2);
        fill(two, 0, 1);
        fill(two, 1, 1);
        sells(two, 0, 0, 1, 5);
        sells(two, 1, 0, 1, 2);
        buys(two, two.addCanoe(10, 9), 0, 1, 9);
        is("it loses 5 or 2", 1, two.advise(2, 1));
        two.addRow(1);
        is("it loses 2 in the new row, too", 1, two.advise(2, 1));
        two.addRow(1);
        is("it loses none far away", 3, two.advise(2, 1));
        two.offer(2, 0, 0, 1, 4);
        is("it does not buy for 5", 0, two.advise(2, 1));
    }

    private static void adviseTheLastStep() {
        sentence("advise: behind so many steps, the last one too");
        for (int steps : new int[] {1, 2, 24, 25, 59, 60}) {
            is("a buyer in the last step", 2, buyerComesBeside(steps - 1).advise(3, steps));
            is("a buyer one step later", 0, buyerComesBeside(steps).advise(3, steps));
        }
    }

    /** In the row 2 the one between the buyer and the free place leaves in this step. */
    private static FloatMarket buyerComesBeside(int step) {
        FloatMarket m = market(1, 1, 3);
        fill(m, 2, 2);
        fill(m, 1, 1);
        buys(m, 0, 0, 1, 4);
        m.leaveIn(1, step);
        sells(m, m.addCanoe(0, 9), 0, 5, 4);
        return m;
    }

    // ---- Promise 20

    private static void price() {
        sentence("price: IndexOutOfBoundsException if there is no such canoe");
        bounds(INDEX, 0, 13, () -> fullMarket(), (m, canoe) -> m.price(canoe, 0, 1));
        refused("without canoes", market(1), INDEX, m -> m.price(0, 0, 1));
        sentence("price: or good is not 0 to 3");
        bounds(INDEX, 0, 3, () -> filled(2), (m, good) -> m.price(1, good, 1));
        sentence("price: IllegalArgumentException if steps is not 1 to 40");
        bounds(ARGUMENT, 1, 40, () -> filled(2), (m, steps) -> m.price(0, 0, steps));
        sentence("price: of both the IndexOutOfBoundsException");
        for (int steps : new int[] {0, 41}) {
            refused("canoe", filled(1), INDEX, m -> m.price(1, 0, steps));
            refused("good", filled(1), INDEX, m -> m.price(0, 4, steps));
        }
        leastPrice();
        priceFromOneToTwenty();
        priceOfAllKinds();
        priceInSoManySteps();
        sentence("price: one that is gone or on open water sells none with each, 1 is the least");
        is("gone", 1, withOneGone().price(0, 3, 40));
        is("on open water", 1, twoCanoes().price(0, 0, 40));
        looksAhead("price", m -> m.price(0, 0, 40) + m.price(3, 3, 1));
    }

    private static void leastPrice() {
        sentence("price: Looks for the least price");
        is("nobody buys", 1, filled(2).price(0, 0, 40));
        for (int pays = 1; pays <= 20; pays++) {
            is("one who pays " + pays, 1, pair(5, 0, 5, pays).price(0, 0, 5));
        }
        sentence("price: if it asks it from now on (what it asked before is as nothing)");
        for (int asked = 0; asked <= 20; asked++) {
            FloatMarket m = pair(5, asked, 5, 20);
            is("it asked " + asked, 1, m.price(0, 0, 5));
            is("it asks " + asked + " still", asked, m.good(0, 0, 1));
        }
    }

    private static void priceFromOneToTwenty() {
        sentence("price: 1 to 20");
        for (int least = 1; least <= 20; least++) {
            is("coins for the next", least, coinsComeBack(least).price(1, 0, 1));
            is("coins for the next, 40 steps", least, coinsComeBack(least).price(1, 0, 40));
        }
        sentence("price: neither 0 nor 21");
        FloatMarket m = betterUnsold();
        is("sold with the price 20", 1, m.pass(9));
        is("by the canoe 0", 1, m.canoe(0, 8));
        FloatMarket unsold = betterUnsold();
        unsold.offer(0, 0, 0, 0, 0);
        is("without a price more would be sold, but", 1, unsold.price(0, 0, 9));
        unsold.pass(9);
        is("sold without a price", 2, unsold.canoe(0, 8));
    }

    /** The canoe 1 needs so many coins for a good of the canoe 2, which buys for these coins. */
    private static FloatMarket coinsComeBack(int coins) {
        FloatMarket m = market(4);
        int[] all = {100, 0, 0, 0};
        for (int c : all) {
            m.addCanoe(c, 9);
        }
        m.moor(2, 0);
        m.moor(1, 0);
        m.moor(0, 0);
        buys(m, 0, 0, 1, 20);
        m.load(1, 0, 1);
        sells(m, 1, 2, 1, coins);
        buys(m, 1, 1, 1, 20);
        sells(m, 2, 1, 1, coins);
        buys(m, 2, 2, 1, 20);
        return m;
    }

    /**
     * The canoe 1 buys of the canoe 0 at each price from 1 to 20; if that asks none, of the
     * canoe 2, which then buys of the canoe 3, which then buys two of the canoe 0.
     */
    private static FloatMarket betterUnsold() {
        FloatMarket m = market(2, 2);
        int[] coins = {0, 20, 0, 0};
        int[] rows = {0, 0, 1, 1};
        for (int c : coins) {
            m.addCanoe(c, 9);
        }
        for (int canoe : new int[] {0, 1, 3, 2}) {
            m.moor(canoe, rows[canoe]);
        }
        sells(m, 0, 0, 1, 20);
        sells(m, 2, 0, 1, 20);
        buys(m, 1, 0, 1, 20);
        sells(m, 3, 1, 1, 20);
        buys(m, 2, 1, 1, 20);
        for (int good = 2; good < 4; good++) {
            sells(m, 0, good, 1, 10);
            buys(m, 3, good, 1, 10);
        }
        return m;
    }

    private static void priceOfAllKinds() {
        sentence("price: sells the most goods of all kinds");
        for (int pays = 0; pays < 20; pays++) {
            is("it had best not sell it to one who pays " + pays, pays + 1,
                    othersNeedTheCoins(pays).price(1, 0, 1));
            is("in 40 steps", pays + 1, othersNeedTheCoins(pays).price(1, 0, 40));
        }
        is("it had best take as much as the other good costs", 20,
                othersNeedTheCoins(20).price(1, 0, 1));
        sentence("price: goods that it sells, not goods that it buys for them");
        FloatMarket buying = market(3);
        for (int coins : new int[] {20, 0, 0}) {
            buying.moor(buying.addCanoe(coins, 9), 0);
        }
        sells(buying, 1, 0, 9, 20);
        buys(buying, 0, 0, 9, 20);
        sells(buying, 2, 1, 9, 20);
        buys(buying, 1, 1, 9, 20);
        is("with 20 it sells one, and buys one", 1, buying.price(1, 0, 9));
        sentence("price: goods that it sells, not goods that others sell for these coins");
        FloatMarket serving = market(3);
        for (int coins : new int[] {20, 0, 0}) {
            serving.moor(serving.addCanoe(coins, 9), 0);
        }
        sells(serving, 1, 0, 1, 20);
        buys(serving, 0, 0, 1, 20);
        sells(serving, 2, 1, 1, 5);
        buys(serving, 1, 1, 1, 5);
        is("with 5 the other sells one, too", 1, serving.price(1, 0, 9));
        sentence("price: for a good, the others are asked for as before");
        FloatMarket good = filled(2);
        good.load(0, 3, 2);
        buys(good, 1, 3, 2, 20);
        sells(good, 0, 2, 2, 7);
        good.offer(0, 3, 9, 0, 0);
        is("for the good 3", 1, good.price(0, 3, 2));
        is("the price of the good 2 stays", 7, good.good(0, 2, 1));
        sentence("price: what others sell counts for nothing, nor what it sold before");
        FloatMarket others = coinsComeBack(5);
        is("of the canoe that has none", 1, others.price(0, 3, 9));
        FloatMarket before = coinsComeBack(12);
        before.offer(1, 0, 3, 0, 0);
        before.load(1, 0, 1);
        before.offer(0, 0, 0, 2, 20);
        before.pass(1);
        is("sold before", 1, before.canoe(1, 8));
        is("3 coins of 12, 9 are due", 9, before.price(1, 0, 1));
    }

    /**
     * The canoe 0 has 20 coins, which it needs for the good 1 of the canoe 1, and pays so much for
     * its good 0. With the 20 coins the canoe 1 buys of the canoe 2, which buys the good 2 of it.
     */
    private static FloatMarket othersNeedTheCoins(int pays) {
        FloatMarket m = market(3);
        for (int coins : new int[] {20, 0, 0}) {
            m.moor(m.addCanoe(coins, 9), 0);
        }
        m.load(1, 0, 1);
        buys(m, 0, 0, 1, pays);
        sells(m, 1, 1, 1, 20);
        buys(m, 0, 1, 1, 20);
        sells(m, 2, 3, 1, 20);
        buys(m, 1, 3, 1, 20);
        sells(m, 1, 2, 1, 20);
        buys(m, 2, 2, 1, 20);
        return m;
    }

    private static void priceInSoManySteps() {
        sentence("price: in so many steps, the last one too");
        for (int steps : new int[] {1, 2, 24, 25, 39, 40}) {
            is("the buyer comes in the last step", 9, buyerComesIn(steps - 1).price(1, 0, steps));
            is("the buyer comes one step later", 1, buyerComesIn(steps).price(1, 0, steps));
        }
    }

    /** As coins come back, but the canoe 3 stands before the buyer, and leaves in this step. */
    private static FloatMarket buyerComesIn(int step) {
        FloatMarket m = coinsComeBack(9);
        m.castOff(0);
        m.moor(3, 0);
        m.moor(0, 0);
        m.leaveIn(3, step);
        return m;
    }

    // ---- Promise 21

    private static void mean() {
        sentence("mean: 0 if none was");
        is("of a new object", 0, market().mean());
        FloatMarket none = pair(5, 3, 5, 2);
        none.pass(9);
        is("if none pays enough", 0, none.mean());
        FloatMarket ahead = pair(5, 3, 5, 3);
        ahead.foresee(0, 9, 0);
        ahead.full(1);
        ahead.price(0, 0, 9);
        is("if it is but foreseen", 0, ahead.mean());
        sentence("Returns the mean price of all goods that were sold");
        for (int price = 1; price <= 20; price++) {
            FloatMarket m = pair(3, price, 3, 20);
            m.pass(1);
            is("of one", price, m.mean());
            m.offer(0, 0, 20, 0, 0);
            m.pass(1);
            is("of two", (price + 20) / 2.0, m.mean());
            m.offer(0, 0, 1, 0, 0);
            m.pass(1);
            is("of three", (price + 21) / 3.0, m.mean());
            m.leaveIn(0, 3);
            m.pass(200);
            is("when the seller is gone", (price + 21) / 3.0, m.mean());
        }
    }

    // ---- Promise 22

    private static void digest() {
        sentence("digest: A number d starts with 683; d becomes d * 31 + x");
        BigInteger d = BigInteger.valueOf(683);
        for (int i = 0; i < 36; i++) {
            d = next(d, i < 12 ? 0 : 90);
        }
        holds("of a new object", d.longValue() == new FloatMarket().digest());
        digestIs("without rows and canoes", new FloatMarket(), new int[0]);
        sentence("digest: for each row how many places it has, and what at() tells of each");
        digestIs("of rows that are empty", market(1, 6, 2, 3), new int[] {1, 6, 2, 3});
        FloatMarket partly = market(3, 1);
        fill(partly, 0, 2);
        digestIs("of free places", partly, new int[] {3, 1});
        digestIs("of full rows", filled(2, 5, 6, 1), new int[] {2, 5, 6, 1});
        sentence("digest: for each canoe what canoe() tells, and for each good what good() tells");
        FloatMarket open = market();
        canoes(open, 14, 500, 9);
        open.load(13, 3, 40);
        open.offer(13, 3, 20, 40, 19);
        digestIs("of canoes without rows", open, new int[0]);
        digestIs("of one that is gone", withOneGone(), new int[] {3});
        sentence("digest: which wraps around as a 64-bit integer");
        for (int steps = 0; steps <= 60; steps += 12) {
            digestIs("of the full market", fullMarketBehind(steps), new int[] {6, 1, 3, 6});
        }
        FloatMarket busy = busyMarket();
        busy.pass(40);
        digestIs("of a busy market", busy, new int[] {2, 1, 3});
    }

    /** A full market with trade, made by few enough calls that all of it can be asked for. */
    private static FloatMarket fullMarketBehind(int steps) {
        FloatMarket m = fullMarket();
        for (int canoe = 0; canoe < 14; canoe++) {
            int good = canoe / 2 % 4;
            if (canoe % 2 == 0) {
                sells(m, canoe, good, 40, 1 + canoe);
            } else {
                m.offer(canoe, good, 0, 40, 20);
            }
        }
        if (steps > 0) {
            m.pass(steps);
        }
        return m;
    }

    /** By whole numbers without an end, cut to 64 bits at last, from what the other calls tell. */
    private static void digestIs(String what, FloatMarket m, int[] places) {
        for (int at = 0; at < 24; at++) {
            m.setWater(at, (at * 7 + 3) % 10, at * 3 % 10);
        }
        BigInteger d = BigInteger.valueOf(683);
        for (int i = 0; i < 12; i++) {
            d = next(d, m.count(i));
        }
        for (int at = 0; at < 24; at++) {
            d = next(d, 10 * ((at * 7 + 3) % 10) + at * 3 % 10);
        }
        for (int row = 0; row < places.length; row++) {
            d = next(d, places[row]);
            for (int place = 0; place < places[row]; place++) {
                d = next(d, m.at(row, place));
            }
        }
        int canoes = m.count(2);
        for (int canoe = 0; canoe < canoes; canoe++) {
            for (int i = 0; i < 11; i++) {
                d = next(d, m.canoe(canoe, i));
            }
            for (int i = 0; i < 16; i++) {
                d = next(d, m.good(canoe, i / 4, i % 4));
            }
        }
        holds(what, d.longValue() == m.digest());
        holds(what + ", again", d.longValue() == m.digest());
    }

    private static BigInteger next(BigInteger d, int x) {
        return d.multiply(BigInteger.valueOf(31)).add(BigInteger.valueOf(x));
    }
}
