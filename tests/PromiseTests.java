/** For each promise of the document ordinary inputs, the edges that it names, and wrong inputs. */
public final class PromiseTests {
    private static final Class<?> INDEX = IndexOutOfBoundsException.class;
    private static final Class<?> ARGUMENT = IllegalArgumentException.class;
    private static final Class<?> STATE = IllegalStateException.class;
    private static final int[] FAR = {Integer.MIN_VALUE, -1, Integer.MAX_VALUE};

    private static int wrong = 0;
    private static String promise = "";

    private static void is(String what, double want, double got) {
        if (got != want) {
            wrong++;
            System.out.println(promise + ": " + what + " answered " + got + ", due is " + want);
        }
    }

    private static void holds(String what, boolean got) {
        is(what, 1, got ? 1 : 0);
    }

    /** The call throws exactly this class, and changes nothing. */
    private static void refused(FloatMarket m, String what, Class<?> kind, Runnable call) {
        long before = m.digest();
        Class<?> thrown = null;
        try {
            call.run();
        } catch (RuntimeException e) {
            thrown = e.getClass();
        }
        if (thrown != kind) {
            wrong++;
            System.out.println(promise + ": " + what + " threw " + thrown + ", due is " + kind);
        }
        holds(what + " changes nothing", before == m.digest());
    }

    private static void refusedIndexes(FloatMarket m, String what, int end, IndexCall call) {
        for (int index : FAR) {
            refused(m, what + " with the index " + index, INDEX, () -> call.with(index));
        }
        refused(m, what + " with the index " + end, INDEX, () -> call.with(end));
    }

    private interface IndexCall {
        void with(int index);
    }

    private static FloatMarket market(int... places) {
        FloatMarket m = new FloatMarket();
        for (int p : places) {
            m.addRow(p);
        }
        return m;
    }

    /** Adds canoes with 100 coins and the highest rope, and moors them in a row. */
    private static void fill(FloatMarket m, int row, int many) {
        for (int i = 0; i < many; i++) {
            m.moor(m.addCanoe(100, 9), row);
        }
    }

    private static void sells(FloatMarket m, int canoe, int good, int has, int price) {
        m.load(canoe, good, has);
        m.offer(canoe, good, price, 0, 0);
    }

    private static void buys(FloatMarket m, int canoe, int good, int wants, int pays) {
        m.offer(canoe, good, 0, wants, pays);
    }

    public static void main(String[] args) {
        newObject();
        addRow();
        setWater();
        addCanoe();
        load();
        offer();
        moor();
        castOff();
        leaveIn();
        canoe();
        good();
        at();
        beside();
        passTrades();
        passSellers();
        passOrder();
        passDrifts();
        passLeaves();
        passAllFull();
        passRefused();
        count();
        foresee();
        full();
        gone();
        advise();
        price();
        mean();
        digest();
        lookingAheadChangesNothing();
        System.out.println(wrong == 0 ? "all promises hold" : wrong + " checks failed");
        if (wrong != 0) {
            System.exit(1);
        }
    }

    private static void newObject() {
        promise = "1 A new object";
        FloatMarket m = new FloatMarket();
        for (int what = 0; what < 12; what++) {
            is("count(" + what + ")", 0, m.count(what));
        }
        refusedIndexes(m, "canoe", 0, c -> m.canoe(c, 0));
        refusedIndexes(m, "at", 0, r -> m.at(r, 0));
        for (int at = 0; at < 24; at++) {
            is("the first water", 90, m.setWater(at, 9, 0));
        }
        FloatMarket other = new FloatMarket();
        m.addRow(2);
        m.addCanoe(1, 1);
        is("another object's rows", 0, other.count(1));
        is("another object's canoes", 0, other.count(2));
    }

    private static void addRow() {
        promise = "2 addRow";
        FloatMarket m = new FloatMarket();
        refused(m, "addRow(0)", ARGUMENT, () -> m.addRow(0));
        refused(m, "addRow(7)", ARGUMENT, () -> m.addRow(7));
        for (int places : FAR) {
            refused(m, "addRow(" + places + ")", ARGUMENT, () -> m.addRow(places));
        }
        is("addRow(6)", 0, m.addRow(6));
        is("addRow(1)", 1, m.addRow(1));
        is("addRow(3)", 2, m.addRow(3));
        is("addRow(2)", 3, m.addRow(2));
        refused(m, "a fifth row", STATE, () -> m.addRow(1));
        refused(m, "a fifth row without places", ARGUMENT, () -> m.addRow(0));
        is("count(1)", 4, m.count(1));
        is("the last place", -1, m.at(0, 5));
        refused(m, "at behind the last place", INDEX, () -> m.at(1, 1));
    }

    private static void setWater() {
        promise = "3 setWater";
        FloatMarket m = market(2);
        fill(m, 0, 1);
        is("setWater(0, 0, 0)", 90, m.setWater(0, 0, 0));
        is("setWater(0, 3, 9)", 0, m.setWater(0, 3, 9));
        is("setWater(0, 9, 0)", 39, m.setWater(0, 9, 0));
        is("setWater(23, 4, 5)", 90, m.setWater(23, 4, 5));
        is("setWater(23, 4, 5) again", 45, m.setWater(23, 4, 5));
        refusedIndexes(m, "setWater", 24, at -> m.setWater(at, 1, 1));
        refusedIndexes(m, "setWater, tide too high", 24, at -> m.setWater(at, 10, 1));
        for (int value : new int[] {-1, 10, Integer.MAX_VALUE, Integer.MIN_VALUE}) {
            refused(m, "tide " + value, ARGUMENT, () -> m.setWater(1, value, 0));
            refused(m, "wake " + value, ARGUMENT, () -> m.setWater(1, 0, value));
        }
        m.setWater(1, 0, 0);
        is("dry in the step 0", 0, m.count(11));
        m.pass(1);
        is("dry in the step 1", 1, m.count(11));
        m.pass(1);
        is("dry in the step 2", 0, m.count(11));
        m.pass(23);
        is("dry in the step 25", 1, m.count(11));
    }

    private static void addCanoe() {
        promise = "4 addCanoe";
        FloatMarket m = new FloatMarket();
        for (int coins : new int[] {-1, 501, Integer.MIN_VALUE, Integer.MAX_VALUE}) {
            refused(m, "coins " + coins, ARGUMENT, () -> m.addCanoe(coins, 0));
        }
        for (int rope : new int[] {-1, 10, Integer.MIN_VALUE, Integer.MAX_VALUE}) {
            refused(m, "rope " + rope, ARGUMENT, () -> m.addCanoe(0, rope));
        }
        is("addCanoe(0, 0)", 0, m.addCanoe(0, 0));
        is("addCanoe(500, 9)", 1, m.addCanoe(500, 9));
        is("its coins", 500, m.canoe(1, 0));
        is("its rope", 9, m.canoe(1, 1));
        for (int number = 2; number < 14; number++) {
            is("addCanoe", number, m.addCanoe(number, 1));
        }
        refused(m, "a fifteenth", STATE, () -> m.addCanoe(1, 1));
        refused(m, "a fifteenth with a wrong rope", ARGUMENT, () -> m.addCanoe(1, 10));
        is("count(2)", 14, m.count(2));
        is("count(5)", 500 + 90 - 12 + 12, m.count(5));
    }

    private static void load() {
        promise = "5 load";
        FloatMarket m = market(1);
        fill(m, 0, 1);
        is("load(0, 0, 40)", 40, m.load(0, 0, 40));
        is("load(0, 0, 40)", 80, m.load(0, 0, 40));
        refused(m, "101 of it", STATE, () -> m.load(0, 0, 21));
        is("100 of it", 100, m.load(0, 0, 20));
        is("of another good", 1, m.load(0, 3, 1));
        is("good(0, 3, 0)", 1, m.good(0, 3, 0));
        refused(m, "101 of it", STATE, () -> m.load(0, 0, 1));
        for (int many : new int[] {0, -1, 41, Integer.MIN_VALUE, Integer.MAX_VALUE}) {
            refused(m, "many " + many, ARGUMENT, () -> m.load(0, 0, many));
        }
        refusedIndexes(m, "load, canoe", 1, c -> m.load(c, 0, 0));
        refusedIndexes(m, "load, good", 4, g -> m.load(0, g, 0));
        m.leaveIn(0, 0);
        m.pass(1);
        refused(m, "load of one that is gone", STATE, () -> m.load(0, 1, 1));
        refused(m, "load of one that is gone", ARGUMENT, () -> m.load(0, 1, 41));
        is("load on open water", 2, m.load(m.addCanoe(0, 0), 2, 2));
    }

    private static void offer() {
        promise = "6 offer";
        FloatMarket m = market(1);
        fill(m, 0, 1);
        is("offer, wants nothing", 0, m.offer(0, 1, 20, 0, 20));
        is("offer, wants 40", 40, m.offer(0, 1, 0, 40, 0));
        m.load(0, 1, 7);
        is("offer, misses 3", 3, m.offer(0, 1, 4, 10, 6));
        is("offer, misses nothing", 0, m.offer(0, 1, 4, 7, 6));
        is("offer, has more", 0, m.offer(0, 1, 5, 2, 6));
        is("has", 7, m.good(0, 1, 0));
        is("asks", 5, m.good(0, 1, 1));
        is("wants", 2, m.good(0, 1, 2));
        is("pays", 6, m.good(0, 1, 3));
        is("wants of another good", 0, m.good(0, 2, 2));
        for (int value : new int[] {-1, 21, Integer.MIN_VALUE, Integer.MAX_VALUE}) {
            refused(m, "price " + value, ARGUMENT, () -> m.offer(0, 0, value, 1, 1));
            refused(m, "pays " + value, ARGUMENT, () -> m.offer(0, 0, 1, 1, value));
        }
        for (int wants : new int[] {-1, 41, Integer.MIN_VALUE, Integer.MAX_VALUE}) {
            refused(m, "wants " + wants, ARGUMENT, () -> m.offer(0, 0, 1, wants, 1));
        }
        refusedIndexes(m, "offer, canoe", 1, c -> m.offer(c, 0, 21, 0, 0));
        refusedIndexes(m, "offer, good", 4, g -> m.offer(0, g, 21, 0, 0));
        m.leaveIn(0, 0);
        m.pass(1);
        is("offer of one that is gone", 9, m.offer(0, 0, 1, 9, 1));
    }

    private static void moor() {
        promise = "7 moor";
        FloatMarket m = market(2, 1);
        for (int i = 0; i < 4; i++) {
            m.addCanoe(10, 9);
        }
        is("moor(2, 0)", 0, m.moor(2, 0));
        is("moor(0, 0)", 1, m.moor(0, 0));
        refused(m, "moor in a full row", STATE, () -> m.moor(1, 0));
        refused(m, "moor of one that is moored", STATE, () -> m.moor(0, 1));
        is("moor(1, 1)", 0, m.moor(1, 1));
        is("canoe(0, 3)", 0, m.canoe(0, 3));
        is("canoe(0, 4)", 1, m.canoe(0, 4));
        refusedIndexes(m, "moor, canoe", 4, c -> m.moor(c, 0));
        refusedIndexes(m, "moor, row", 2, r -> m.moor(0, r));
        m.castOff(2);
        is("moor again, behind the one who moved in", 1, m.moor(3, 0));
        m.leaveIn(1, 0);
        m.pass(1);
        refused(m, "moor of one that is gone", STATE, () -> m.moor(1, 1));
        for (int at = 0; at < 24; at++) {
            m.setWater(at, 0, 0);
        }
        is("moor at a dry place", 0, m.moor(2, 1));
    }

    private static void castOff() {
        promise = "8 castOff";
        FloatMarket m = market(5);
        fill(m, 0, 5);
        is("castOff from inside", 3, m.castOff(1));
        is("its state", 0, m.canoe(1, 2));
        is("its row", -1, m.canoe(1, 3));
        is("its place", -1, m.canoe(1, 4));
        int[] left = {0, 2, 3, 4, -1};
        for (int place = 0; place < 5; place++) {
            is("at(0, " + place + ")", left[place], m.at(0, place));
        }
        is("place of one who moved in", 1, m.canoe(2, 4));
        is("loosened outside", 1, m.canoe(4, 6));
        is("loosened inside", 0, m.canoe(0, 6));
        is("loosened itself", 0, m.canoe(1, 6));
        is("castOff from outermost", 0, m.castOff(4));
        is("loosened in all", 3, m.count(9));
        refused(m, "castOff on open water", STATE, () -> m.castOff(4));
        m.setWater(0, 3, 0);
        refused(m, "castOff at a dry place", STATE, () -> m.castOff(0));
        is("castOff, 1 and 3 are not less than 4", 1, m.castOff(2));
        m.setWater(0, 2, 0);
        refused(m, "castOff, 1 and 2 are less than 4", STATE, () -> m.castOff(3));
        m.pass(1);
        is("castOff by the tide of the next step", 0, m.castOff(3));
        m.leaveIn(0, 1);
        m.pass(1);
        refused(m, "castOff of one that is gone", STATE, () -> m.castOff(0));
        refusedIndexes(m, "castOff", 5, m::castOff);
    }

    private static void leaveIn() {
        promise = "9 leaveIn";
        FloatMarket m = market(2);
        fill(m, 0, 2);
        is("leaveIn(0, 5)", -1, m.leaveIn(0, 5));
        is("leaveIn(0, -1)", 5, m.leaveIn(0, -1));
        is("leaveIn(0, the last)", -1, m.leaveIn(0, Integer.MAX_VALUE));
        is("leaveIn(0, 0)", Integer.MAX_VALUE, m.leaveIn(0, 0));
        is("leaveIn(0, 7)", 0, m.leaveIn(0, 7));
        m.pass(3);
        refused(m, "earlier than now", ARGUMENT, () -> m.leaveIn(0, 2));
        refused(m, "0, earlier than now", ARGUMENT, () -> m.leaveIn(0, 0));
        refused(m, "-2", ARGUMENT, () -> m.leaveIn(0, -2));
        refused(m, "the least", ARGUMENT, () -> m.leaveIn(0, Integer.MIN_VALUE));
        is("leaveIn now", 7, m.leaveIn(0, 3));
        m.pass(1);
        is("gone", 2, m.canoe(0, 2));
        refused(m, "of one that is gone", STATE, () -> m.leaveIn(0, 9));
        refused(m, "-1 of one that is gone", STATE, () -> m.leaveIn(0, -1));
        refused(m, "too early, of one that is gone", ARGUMENT, () -> m.leaveIn(0, 3));
        refusedIndexes(m, "leaveIn", 2, c -> m.leaveIn(c, 0));
        is("on open water", -1, m.leaveIn(m.addCanoe(0, 0), 4));
    }

    private static void canoe() {
        promise = "10 canoe";
        FloatMarket m = market(3, 1);
        m.addCanoe(11, 2);
        m.addCanoe(50, 8);
        sells(m, 0, 2, 9, 3);
        buys(m, 1, 2, 4, 3);
        buys(m, 1, 0, 6, 1);
        canoeTells(m, 0, 11, 2, 0, -1, -1, -1, 0, 0, 0, 0, 0);
        canoeTells(m, 1, 50, 8, 0, -1, -1, -1, 0, 0, 0, 0, 10);
        m.moor(0, 0);
        m.moor(1, 0);
        m.leaveIn(0, 2);
        m.setWater(1, 9, 9);
        m.pass(1);
        canoeTells(m, 0, 14, 2, 1, 0, 0, 2, 0, 0, 1, 0, 0);
        canoeTells(m, 1, 47, 8, 1, 0, 1, -1, 0, 0, 0, 1, 9);
        m.pass(1);
        canoeTells(m, 0, 17, 2, 1, 0, 0, 2, 0, 0, 2, 0, 0);
        canoeTells(m, 1, 44, 8, 1, 1, 0, -1, 0, 1, 0, 2, 8);
        m.pass(1);
        canoeTells(m, 0, 17, 2, 2, -1, -1, 2, 0, 0, 2, 0, 0);
        refusedIndexes(m, "canoe", 2, c -> m.canoe(c, 0));
        refusedIndexes(m, "what", 11, w -> m.canoe(0, w));
    }

    private static void canoeTells(FloatMarket m, int canoe, int... due) {
        for (int what = 0; what < due.length; what++) {
            is("canoe(" + canoe + ", " + what + ")", due[what], m.canoe(canoe, what));
        }
    }

    private static void good() {
        promise = "11 good";
        FloatMarket m = new FloatMarket();
        m.addCanoe(1, 1);
        m.addCanoe(1, 1);
        m.load(1, 3, 8);
        m.offer(1, 3, 15, 31, 17);
        int[] due = {8, 15, 31, 17};
        for (int what = 0; what < 4; what++) {
            is("good(1, 3, " + what + ")", due[what], m.good(1, 3, what));
            is("good(1, 2, " + what + ")", 0, m.good(1, 2, what));
            is("good(0, 3, " + what + ")", 0, m.good(0, 3, what));
        }
        refusedIndexes(m, "canoe", 2, c -> m.good(c, 0, 0));
        refusedIndexes(m, "good", 4, g -> m.good(0, g, 0));
        refusedIndexes(m, "what", 4, w -> m.good(0, 0, w));
    }

    private static void at() {
        promise = "12 at";
        FloatMarket m = market(3, 6);
        fill(m, 0, 1);
        fill(m, 1, 2);
        is("at(0, 0)", 0, m.at(0, 0));
        is("at(0, 1)", -1, m.at(0, 1));
        is("at(1, 1)", 2, m.at(1, 1));
        is("at(1, 5)", -1, m.at(1, 5));
        m.castOff(2);
        is("at(1, 1), left", -1, m.at(1, 1));
        refusedIndexes(m, "row", 2, r -> m.at(r, 0));
        refusedIndexes(m, "place", 3, p -> m.at(0, p));
        refusedIndexes(m, "place", 6, p -> m.at(1, p));
    }

    private static void beside() {
        promise = "13 beside";
        FloatMarket m = market(3, 2, 2);
        fill(m, 0, 3);
        fill(m, 1, 2);
        fill(m, 2, 1);
        m.addCanoe(0, 0);
        boolean[][] due = new boolean[7][7];
        int[][] pairs = {{0, 1}, {1, 2}, {3, 4}, {0, 3}, {1, 4}, {3, 5}};
        for (int[] pair : pairs) {
            due[pair[0]][pair[1]] = true;
            due[pair[1]][pair[0]] = true;
        }
        for (int a = 0; a < 7; a++) {
            for (int b = 0; b < 7; b++) {
                is("beside(" + a + ", " + b + ")", due[a][b] ? 1 : 0, m.beside(a, b) ? 1 : 0);
            }
        }
        m.addCanoe(0, 0);
        is("two on open water", 0, m.beside(6, 7) ? 1 : 0);
        refusedIndexes(m, "a", 8, a -> m.beside(a, 0));
        refusedIndexes(m, "b", 8, b -> m.beside(0, b));
    }

    private static void passTrades() {
        promise = "14 pass, trading";
        FloatMarket m = market(2, 2);
        fill(m, 0, 2);
        fill(m, 1, 1);
        sells(m, 0, 1, 5, 4);
        buys(m, 1, 1, 3, 4);
        buys(m, 2, 1, 1, 3);
        is("pass(2)", 2, m.pass(2));
        is("one pays too little", 0, m.good(2, 1, 0));
        is("it has 3 left", 3, m.good(0, 1, 0));
        is("it is paid", 108, m.canoe(0, 0));
        is("it paid", 92, m.canoe(1, 0));
        is("pass(200)", 1, m.pass(200));
        is("it wants no more", 3, m.good(1, 1, 0));
        is("the step", 202, m.count(0));
        buys(m, 2, 1, 9, 20);
        is("it sells all that it has", 2, m.pass(9));
        m.load(0, 1, 6);
        m.offer(0, 1, 4, 5, 0);
        is("it keeps what it wants itself", 1, m.pass(9));
        is("and has that", 5, m.good(0, 1, 0));
        m.offer(0, 1, 0, 0, 0);
        is("it sells none for 0", 0, m.pass(9));
        FloatMarket poor = market(2);
        poor.moor(poor.addCanoe(5, 9), 0);
        poor.moor(poor.addCanoe(5, 9), 0);
        sells(poor, 0, 0, 9, 5);
        sells(poor, 0, 3, 9, 1);
        buys(poor, 1, 0, 9, 20);
        buys(poor, 1, 3, 9, 20);
        is("it has coins for one", 1, poor.pass(1));
        is("all its coins are gone", 0, poor.canoe(1, 0));
        is("it has coins for none", 0, poor.pass(1));
        FloatMarket diagonal = market(2, 2, 2);
        fill(diagonal, 0, 1);
        fill(diagonal, 1, 2);
        fill(diagonal, 2, 1);
        sells(diagonal, 0, 0, 9, 1);
        buys(diagonal, 2, 0, 9, 9);
        buys(diagonal, 3, 0, 9, 9);
        is("neither diagonally nor over a row", 0, diagonal.pass(5));
        buys(diagonal, 1, 0, 2, 9);
        diagonal.setWater(5, 0, 0);
        diagonal.setWater(6, 0, 0);
        is("dry ones trade too", 2, diagonal.pass(2));
    }

    private static void passSellers() {
        promise = "14 pass, of several sellers";
        FloatMarket m = market(3, 3, 3);
        fill(m, 0, 2);
        fill(m, 1, 3);
        fill(m, 2, 2);
        int buyer = 3;
        int[] sellers = {1, 2, 4, 6};
        for (int seller : sellers) {
            sells(m, seller, 0, 1, 7);
        }
        m.offer(4, 0, 6, 0, 0);
        sells(m, 0, 0, 9, 1);
        sells(m, 5, 0, 9, 1);
        buys(m, buyer, 0, 9, 9);
        int[] order = {4, 1, 2, 6};
        for (int seller : order) {
            is("sold", 1, m.pass(1));
            is("by " + seller, 1, m.canoe(seller, 8));
        }
        is("none is left beside it", 0, m.pass(1));
        FloatMarket reversed = new FloatMarket();
        for (int i = 0; i < 3; i++) {
            reversed.addRow(3);
        }
        for (int i = 0; i < 7; i++) {
            reversed.addCanoe(100, 9);
        }
        int[] rows = {2, 1, 2, 1, 1, 0, 0};
        int[] numbers = {5, 6, 4, 3, 0, 2, 1};
        for (int i = 0; i < 7; i++) {
            reversed.moor(numbers[i], rows[i]);
        }
        for (int seller : new int[] {0, 1, 4, 6}) {
            sells(reversed, seller, 2, 1, 3);
        }
        buys(reversed, 3, 2, 9, 3);
        for (int seller : new int[] {0, 1, 4, 6}) {
            is("sold", 1, reversed.pass(1));
            is("by " + seller, 1, reversed.canoe(seller, 8));
        }
    }

    private static void passOrder() {
        promise = "14 pass, trading by numbers";
        FloatMarket rivals = market(3);
        for (int i = 0; i < 3; i++) {
            rivals.addCanoe(100, 9);
        }
        for (int canoe : new int[] {2, 0, 1}) {
            rivals.moor(canoe, 0);
        }
        sells(rivals, 0, 0, 1, 2);
        buys(rivals, 1, 0, 1, 2);
        buys(rivals, 2, 0, 1, 9);
        is("one is sold", 1, rivals.pass(1));
        is("the smaller number buys first", 1, rivals.good(1, 0, 0));
        FloatMarket chain = new FloatMarket();
        chain.addRow(3);
        for (int i = 0; i < 3; i++) {
            chain.addCanoe(i == 0 ? 0 : 10, 9);
        }
        chain.moor(1, 0);
        chain.moor(0, 0);
        chain.moor(2, 0);
        sells(chain, 0, 0, 1, 6);
        buys(chain, 0, 1, 1, 9);
        sells(chain, 2, 1, 1, 6);
        buys(chain, 1, 0, 1, 9);
        is("coins got later in a step do not serve earlier", 1, chain.pass(1));
        is("they serve in the next", 1, chain.pass(1));
        FloatMarket goods = market(2);
        fill(goods, 0, 1);
        goods.moor(goods.addCanoe(7, 9), 0);
        for (int good = 3; good >= 0; good--) {
            sells(goods, 0, good, 5, 3);
            buys(goods, 1, good, 5, 3);
        }
        is("good by good", 2, goods.pass(1));
        is("good 0", 1, goods.good(1, 0, 0));
        is("good 1", 1, goods.good(1, 1, 0));
        is("good 2", 0, goods.good(1, 2, 0));
    }

    private static void passDrifts() {
        promise = "14 pass, wakes";
        FloatMarket m = market(2, 1, 2);
        for (int rope : new int[] {4, 4, 5, 4}) {
            m.addCanoe(0, rope);
        }
        m.moor(0, 0);
        m.moor(1, 0);
        m.moor(2, 1);
        m.setWater(0, 0, 4);
        m.setWater(1, 0, 5);
        m.pass(1);
        is("a rope of 4 holds a wake of 4", 0, m.count(10));
        m.pass(1);
        is("only the outermost drifts", 1, m.count(10));
        is("past the full row, into the next", 1, m.at(2, 0));
        is("it leaves its place", -1, m.at(0, 1));
        is("it moors", 1, m.canoe(1, 2));
        is("it drifted", 1, m.canoe(1, 7));
        is("none is loosened", 0, m.count(9));
        m.setWater(2, 9, 5);
        m.pass(1);
        is("round, the first row drifts on", 0, m.at(2, 1));
        is("the one that drifted covers the one inside", 1, m.at(2, 0));
        m.setWater(3, 9, 6);
        m.pass(1);
        is("row by row in one step, first the second row", 2, m.at(0, 0));
        is("row by row in one step, then the third", 0, m.at(0, 1));
        is("drifts in all", 4, m.count(10));
        FloatMarket one = market(3);
        one.moor(one.addCanoe(0, 0), 0);
        one.moor(one.addCanoe(0, 0), 0);
        one.setWater(0, 9, 1);
        one.pass(1);
        is("without another row to open water", 0, one.canoe(1, 2));
        is("it counts as drifted", 1, one.canoe(1, 7));
        is("its row", -1, one.canoe(1, 3));
        is("the inner one stays", 1, one.canoe(0, 2));
        FloatMarket twice = market(2, 2);
        twice.moor(twice.addCanoe(0, 0), 0);
        twice.setWater(0, 9, 9);
        twice.setWater(1, 9, 9);
        twice.pass(1);
        is("once a step", 1, twice.canoe(0, 7));
        is("to the next row", 1, twice.canoe(0, 3));
        twice.pass(1);
        is("again in the next step", 2, twice.canoe(0, 7));
        is("round to the first", 0, twice.canoe(0, 3));
        FloatMarket leaving = market(1, 1);
        leaving.moor(leaving.addCanoe(0, 0), 0);
        leaving.setWater(0, 9, 9);
        leaving.leaveIn(0, 0);
        leaving.pass(1);
        is("wakes come before leaving", 1, leaving.canoe(0, 7));
        is("and it is gone", 2, leaving.canoe(0, 2));
    }

    private static void passLeaves() {
        promise = "14 pass, leaving";
        FloatMarket m = market(5);
        fill(m, 0, 5);
        m.setWater(0, 3, 0);
        m.setWater(1, 0, 0);
        m.leaveIn(0, 0);
        m.leaveIn(1, 0);
        m.leaveIn(2, 0);
        m.leaveIn(4, 3);
        m.pass(1);
        is("a dry one stays", 1, m.canoe(0, 2));
        is("the next leaves", 2, m.canoe(1, 2));
        is("the third, who moved in to a wet place, leaves", 2, m.canoe(2, 2));
        is("the fourth was loosened twice", 2, m.canoe(3, 6));
        is("the fifth too", 2, m.canoe(4, 4));
        m.pass(1);
        is("still dry", 1, m.canoe(0, 2));
        m.pass(1);
        is("it leaves later", 2, m.canoe(0, 2));
        is("the one to leave at 3 stays", 1, m.canoe(4, 2));
        m.pass(1);
        is("it leaves at 3", 2, m.canoe(4, 2));
        is("the one that was told nothing stays", 1, m.canoe(3, 2));
        is("the leaving step is kept", 0, m.canoe(0, 5));
        is("gone are", 4, m.count(4));
        FloatMarket open = market(1);
        open.addCanoe(3, 3);
        open.leaveIn(0, 1);
        open.pass(3);
        is("one on open water does not leave", 0, open.canoe(0, 2));
        open.moor(0, 0);
        open.pass(1);
        is("it leaves once it is moored", 2, open.canoe(0, 2));
        FloatMarket trading = market(2);
        fill(trading, 0, 2);
        sells(trading, 0, 0, 5, 1);
        buys(trading, 1, 0, 5, 1);
        trading.leaveIn(0, 1);
        is("leaving comes before trading", 1, trading.pass(2));
        FloatMarket moving = market(3);
        fill(moving, 0, 3);
        moving.setWater(0, 3, 0);
        moving.leaveIn(1, 0);
        moving.leaveIn(2, 0);
        moving.setWater(0, 2, 0);
        moving.pass(1);
        is("place 1 is dry", 1, moving.canoe(1, 2));
        is("place 2 is not", 2, moving.canoe(2, 2));
    }

    private static void passAllFull() {
        promise = "14 pass, with all rows and canoes that there may be";
        FloatMarket m = market(6, 1, 1, 6);
        fill(m, 0, 6);
        fill(m, 1, 1);
        fill(m, 2, 1);
        fill(m, 3, 6);
        sells(m, 13, 3, 2, 1);
        buys(m, 12, 3, 1, 1);
        buys(m, 7, 3, 1, 1);
        sells(m, 8, 0, 1, 1);
        buys(m, 7, 0, 1, 1);
        m.leaveIn(13, 1);
        m.setWater(1, 9, 0);
        is("foresee", 1, m.foresee(7, 3, 1));
        is("pass", 2, m.pass(3));
        is("the last one sold", 101, m.canoe(13, 0));
        is("the last one is gone", 2, m.canoe(13, 2));
        is("castOff from a full row", 5, m.castOff(0));
        for (int place = 0; place < 6; place++) {
            is("at(0, " + place + ")", place < 5 ? place + 1 : -1, m.at(0, place));
        }
        is("moored are", 12, m.count(3));
    }

    private static void passRefused() {
        promise = "14 pass, wrong inputs";
        FloatMarket m = market(2);
        fill(m, 0, 2);
        for (int steps : new int[] {0, -1, 201, Integer.MIN_VALUE, Integer.MAX_VALUE}) {
            refused(m, "pass(" + steps + ")", ARGUMENT, () -> m.pass(steps));
        }
        is("pass(1)", 0, m.pass(1));
        is("pass(200)", 0, m.pass(200));
        is("the step", 201, m.count(0));
    }

    private static void count() {
        promise = "15 count";
        FloatMarket m = market(3, 2);
        fill(m, 0, 3);
        m.addCanoe(40, 0);
        m.load(3, 3, 2);
        m.moor(3, 1);
        m.addCanoe(7, 0);
        m.load(4, 2, 6);
        m.addCanoe(0, 0);
        sells(m, 1, 0, 9, 5);
        buys(m, 2, 0, 2, 5);
        m.setWater(1, 9, 3);
        m.setWater(2, 2, 0);
        m.pass(1);
        m.leaveIn(0, 1);
        m.pass(1);
        int[] due = {2, 2, 6, 2, 1, 347, 17, 2, 10, 2, 1, 2};
        for (int what = 0; what < due.length; what++) {
            is("count(" + what + ")", due[what], m.count(what));
        }
        refusedIndexes(m, "count", 12, m::count);
    }

    private static void foresee() {
        promise = "16 foresee";
        FloatMarket m = market(2, 1);
        fill(m, 0, 2);
        sells(m, 0, 0, 9, 5);
        buys(m, 1, 0, 12, 5);
        m.setWater(3, 9, 0);
        m.leaveIn(0, 4);
        is("coins behind 1", 105, m.foresee(0, 1, 0));
        is("coins behind 4", 120, m.foresee(0, 4, 0));
        is("coins behind 150", 120, m.foresee(0, 150, 0));
        is("misses behind 1", 11, m.foresee(1, 1, 1));
        is("misses behind 150", 8, m.foresee(1, 150, 1));
        is("row behind 4", 0, m.foresee(0, 4, 2));
        is("row behind 5", -1, m.foresee(0, 5, 2));
        FloatMarket drifting = market(1, 1);
        drifting.moor(drifting.addCanoe(0, 1), 0);
        drifting.setWater(1, 9, 2);
        is("row before the wake", 0, drifting.foresee(0, 1, 2));
        is("row behind the wake", 1, drifting.foresee(0, 2, 2));
        is("row behind the next wake", 0, drifting.foresee(0, 26, 2));
        drifting.setWater(1, 9, 1);
        is("a rope that holds", 0, drifting.foresee(0, 150, 2));
        for (int steps : new int[] {0, -1, 151, Integer.MIN_VALUE, Integer.MAX_VALUE}) {
            refused(m, "steps " + steps, ARGUMENT, () -> m.foresee(0, steps, 0));
        }
        refusedIndexes(m, "canoe", 2, c -> m.foresee(c, 0, 0));
        refusedIndexes(m, "what", 3, w -> m.foresee(0, 0, w));
        is("it agrees with pass, coins", m.foresee(0, 7, 0), passed(m, 7).canoe(0, 0));
    }

    private static FloatMarket passed(FloatMarket m, int steps) {
        m.pass(steps);
        return m;
    }

    private static void full() {
        promise = "17 full";
        FloatMarket m = market(2, 2);
        fill(m, 0, 2);
        is("it misses nothing", 0, m.full(0));
        sells(m, 0, 0, 40, 1);
        sells(m, 0, 1, 3, 2);
        buys(m, 1, 0, 7, 1);
        is("7 steps", 7, m.full(1));
        buys(m, 1, 1, 4, 2);
        is("never", -1, m.full(1));
        m.load(0, 1, 1);
        is("again 7", 7, m.full(1));
        m.pass(3);
        is("4 steps", 4, m.full(1));
        refusedIndexes(m, "full", 2, m::full);
        for (int steps : new int[] {1, 2, 24, 25, 149, 150}) {
            is("full in " + steps, steps, sellerComesIn(steps).full(0));
        }
        is("full in 151", -1, sellerComesIn(151).full(0));
        FloatMarket left = market(1);
        fill(left, 0, 1);
        buys(left, 0, 0, 1, 1);
        left.leaveIn(0, 0);
        left.pass(1);
        is("one that is gone, and misses some", -1, left.full(0));
        buys(left, 0, 0, 0, 1);
        is("one that is gone, and misses nothing", 0, left.full(0));
    }

    /** The seller comes beside the canoe 0 when the one between them leaves. */
    private static FloatMarket sellerComesIn(int steps) {
        FloatMarket m = market(3);
        fill(m, 0, 3);
        buys(m, 0, 0, 1, 1);
        sells(m, 2, 0, 1, 1);
        m.leaveIn(1, steps - 1);
        return m;
    }

    private static void gone() {
        promise = "18 gone";
        FloatMarket m = market(2);
        fill(m, 0, 2);
        is("not told to leave", -1, m.gone(0));
        for (int steps : new int[] {1, 2, 149, 150}) {
            m.leaveIn(0, steps - 1);
            is("gone in " + steps, steps, m.gone(0));
        }
        m.leaveIn(0, 150);
        is("gone in 151", -1, m.gone(0));
        m.leaveIn(0, 2);
        m.setWater(2, 3, 0);
        m.setWater(3, 0, 0);
        is("it is dry till then", 5, m.gone(0));
        m.leaveIn(1, 2);
        is("outside it is dry once less", 3, m.gone(1));
        m.pass(2);
        is("behind 2", 3, m.gone(0));
        m.pass(3);
        is("it is gone", 0, m.gone(0));
        for (int at = 0; at < 24; at++) {
            m.setWater(at, 3, 0);
        }
        m.moor(m.addCanoe(0, 9), 0);
        m.leaveIn(2, 5);
        is("always dry", -1, m.gone(2));
        m.leaveIn(m.addCanoe(0, 9), 5);
        is("on open water", -1, m.gone(3));
        refusedIndexes(m, "gone", 4, m::gone);
    }

    private static void advise() {
        promise = "19 advise";
        FloatMarket none = new FloatMarket();
        none.addCanoe(0, 0);
        is("without rows", -1, none.advise(0, 1));
        FloatMarket m = market(1, 3, 3, 3);
        fill(m, 0, 1);
        m.addCanoe(0, 9);
        sells(m, 1, 0, 10, 2);
        is("the first that is not full", 1, m.advise(1, 60));
        fill(m, 2, 1);
        buys(m, 2, 0, 2, 2);
        is("beside the buyer, of several the first", 1, m.advise(1, 1));
        fill(m, 1, 1);
        is("place 1 of the row of the buyer", 2, m.advise(1, 1));
        fill(m, 3, 1);
        buys(m, 3, 0, 1, 2);
        is("1 step, the smaller number", 1, m.advise(1, 1));
        is("2 steps, the most coins", 2, m.advise(1, 2));
        is("60 steps", 2, m.advise(1, 60));
        m.offer(1, 0, 0, 0, 0);
        is("nothing to sell", 1, m.advise(1, 60));
        FloatMarket spending = market(1, 2);
        spending.addCanoe(50, 9);
        fill(spending, 1, 1);
        sells(spending, 1, 0, 5, 3);
        buys(spending, 0, 0, 5, 3);
        is("the same coins in both", 0, spending.advise(0, 3));
        FloatMarket far = market(2, 1, 2);
        far.addCanoe(50, 9);
        fill(far, 0, 1);
        sells(far, 1, 0, 5, 3);
        buys(far, 0, 0, 5, 3);
        is("it keeps its coins far from the seller", 2, far.advise(0, 3));
        FloatMarket occupied = market(1, 1);
        fill(occupied, 0, 1);
        fill(occupied, 1, 1);
        occupied.addCanoe(0, 0);
        is("all are full", -1, occupied.advise(2, 1));
        for (int steps : new int[] {0, -1, 61, Integer.MIN_VALUE, Integer.MAX_VALUE}) {
            refused(occupied, "steps " + steps, ARGUMENT, () -> occupied.advise(2, steps));
            refused(occupied, "moored, steps " + steps, ARGUMENT, () -> occupied.advise(0, steps));
        }
        refused(occupied, "moored", STATE, () -> occupied.advise(0, 1));
        refusedIndexes(occupied, "advise", 3, c -> occupied.advise(c, 0));
        occupied.leaveIn(0, 0);
        occupied.pass(1);
        refused(occupied, "gone", STATE, () -> occupied.advise(0, 1));
    }

    private static void price() {
        promise = "20 price";
        FloatMarket m = market(3);
        fill(m, 0, 3);
        sells(m, 1, 0, 9, 4);
        is("nobody buys", 1, m.price(1, 0, 40));
        buys(m, 0, 0, 3, 7);
        is("the least with the most sold", 1, m.price(1, 0, 3));
        m.offer(1, 0, 0, 0, 0);
        is("now it sells none", 1, m.price(1, 0, 40));
        is("it goes on selling none", 0, m.good(1, 0, 1));
        is("of a good that it has not", 1, m.price(1, 3, 40));
        for (int due = 1; due <= 20; due++) {
            is("coins that come back", due, coinsComeBack(due).price(1, 0, 1));
            is("coins that come back, in 40 steps", due, coinsComeBack(due).price(1, 0, 40));
        }
        FloatMarket late = buyerComesIn();
        is("the buyer comes in the step 40", 9, late.price(1, 0, 40));
        is("not in 39", 1, late.price(1, 0, 39));
        is("the canoe is on open water", 1, m.price(m.addCanoe(0, 0), 0, 1));
        for (int steps : new int[] {0, -1, 41, Integer.MIN_VALUE, Integer.MAX_VALUE}) {
            refused(m, "steps " + steps, ARGUMENT, () -> m.price(0, 0, steps));
        }
        refusedIndexes(m, "canoe", 4, c -> m.price(c, 0, 0));
        refusedIndexes(m, "good", 4, g -> m.price(0, g, 0));
        m.leaveIn(0, 0);
        m.pass(1);
        is("one that is gone", 1, m.price(0, 0, 40));
    }

    /** The canoe 1 needs so many coins for a good of the canoe 2, which buys for these coins. */
    private static FloatMarket coinsComeBack(int coins) {
        FloatMarket m = market(4);
        m.moor(m.addCanoe(100, 9), 0);
        m.moor(m.addCanoe(0, 9), 0);
        m.moor(m.addCanoe(0, 9), 0);
        m.addCanoe(0, 9);
        givesBack(m, coins);
        return m;
    }

    /** The same, but the buyer is kept away by a canoe that leaves in the step 39. */
    private static FloatMarket buyerComesIn() {
        FloatMarket m = market(4);
        for (int coins : new int[] {100, 0, 0, 0}) {
            m.addCanoe(coins, 9);
        }
        for (int canoe : new int[] {2, 1, 3, 0}) {
            m.moor(canoe, 0);
        }
        m.leaveIn(3, 39);
        givesBack(m, 9);
        return m;
    }

    private static void givesBack(FloatMarket m, int coins) {
        buys(m, 0, 0, 1, 20);
        m.load(1, 0, 1);
        sells(m, 1, 2, 1, coins);
        buys(m, 1, 1, 1, 20);
        sells(m, 2, 1, 1, coins);
        buys(m, 2, 2, 1, 20);
    }

    private static void mean() {
        promise = "21 mean";
        FloatMarket m = market(2);
        is("nothing was sold", 0.0, m.mean());
        fill(m, 0, 2);
        sells(m, 0, 0, 1, 7);
        sells(m, 0, 1, 9, 4);
        buys(m, 1, 0, 9, 7);
        buys(m, 1, 1, 9, 7);
        m.pass(2);
        is("7, 4 and 4", 15.0 / 3.0, m.mean());
        m.offer(0, 1, 3, 0, 0);
        m.pass(3);
        is("7, 4, 4, 3, 3 and 3", 24.0 / 6.0, m.mean());
        m.offer(0, 1, 2, 0, 0);
        m.pass(1);
        is("26 for 7", 26.0 / 7.0, m.mean());
    }

    private static void digest() {
        promise = "22 digest";
        FloatMarket m = new FloatMarket();
        long empty = 683;
        for (int number = 0; number < 12 + 24; number++) {
            empty = empty * 31 + (number < 12 ? 0 : 90);
        }
        holds("of a new object", empty == m.digest());
        m.addRow(3);
        m.addRow(2);
        fill(m, 0, 3);
        fill(m, 1, 1);
        sells(m, 1, 2, 9, 5);
        buys(m, 2, 2, 2, 5);
        m.castOff(0);
        m.pass(1);
        for (int at = 0; at < 24; at++) {
            m.setWater(at, at % 10, 9 - at % 10);
        }
        holds("of a market", digestOf(m) == m.digest());
    }

    /** The digest by the other calls, where the water is as digest() has set it. */
    private static long digestOf(FloatMarket m) {
        long d = 683;
        for (int what = 0; what < 12; what++) {
            d = d * 31 + m.count(what);
        }
        for (int at = 0; at < 24; at++) {
            d = d * 31 + m.setWater(at, at % 10, 9 - at % 10);
        }
        for (int row = 0; row < 2; row++) {
            int places = row == 0 ? 3 : 2;
            d = d * 31 + places;
            for (int place = 0; place < places; place++) {
                d = d * 31 + m.at(row, place);
            }
        }
        for (int canoe = 0; canoe < 4; canoe++) {
            for (int what = 0; what < 11; what++) {
                d = d * 31 + m.canoe(canoe, what);
            }
            for (int good = 0; good < 4; good++) {
                for (int what = 0; what < 4; what++) {
                    d = d * 31 + m.good(canoe, good, what);
                }
            }
        }
        return d;
    }

    private static void lookingAheadChangesNothing() {
        promise = "16 to 20, looking ahead";
        FloatMarket m = coinsComeBack(4);
        m.addRow(2);
        m.setWater(3, 1, 5);
        m.leaveIn(2, 6);
        long before = m.digest();
        double meanBefore = m.mean();
        m.foresee(0, 30, 0);
        m.full(0);
        m.gone(2);
        m.advise(3, 20);
        m.price(1, 0, 20);
        holds("nothing is changed", before == m.digest() && meanBefore == m.mean());
    }
}
