import java.util.ArrayList;
import java.util.List;

/**
 * Runs of calls on FloatMarket and on a plain model of it, with numbers from a fixed seed. The model
 * is written anew from the document: it keeps rows as lists, copies itself whole to look ahead, and
 * asks every canoe whether it is beside another.
 */
public final class ReferenceTests {
    private static final int RUNS = 2000;
    /** Each is followed by one of digest(): an object is used for at most 512. */
    private static final int CALLS = 256;

    private static long seed = 20261119L;
    private static int wrong = 0;

    private static int below(int end) {
        seed = seed * 6364136223846793005L + 1442695040888963407L;
        return (int) Long.remainderUnsigned(seed >>> 33, end);
    }

    /** Mostly from low to high, sometimes beyond. */
    private static int around(int low, int high) {
        int kind = below(40);
        if (kind == 0) {
            return low - 1;
        }
        if (kind == 1) {
            return high + 1;
        }
        if (kind == 2) {
            int[] far = {Integer.MIN_VALUE, Integer.MAX_VALUE, -1, 0};
            return far[below(far.length)];
        }
        return low + below(high - low + 1);
    }

    private static final class Refused extends Exception {
        private static final long serialVersionUID = 1L;
        final Class<?> kind;

        Refused(Class<?> kind) {
            super(null, null, false, false);
            this.kind = kind;
        }
    }

    private static void index(boolean fine) throws Refused {
        if (!fine) {
            throw new Refused(IndexOutOfBoundsException.class);
        }
    }

    private static void argument(boolean fine) throws Refused {
        if (!fine) {
            throw new Refused(IllegalArgumentException.class);
        }
    }

    private static void state(boolean fine) throws Refused {
        if (!fine) {
            throw new Refused(IllegalStateException.class);
        }
    }

    private static boolean in(long x, long low, long high) {
        return x >= low && x <= high;
    }

    private static final class Boat {
        int[] has = new int[4];
        int[] price = new int[4];
        int[] wants = new int[4];
        int[] pays = new int[4];
        int coins;
        int rope;
        boolean gone;
        int leave = -1;
        int loosened;
        int drifted;
        boolean driftedNow;
        int sold;
        int bought;

        Boat copy() {
            Boat b = new Boat();
            b.has = has.clone();
            b.price = price.clone();
            b.wants = wants.clone();
            b.pays = pays.clone();
            b.coins = coins;
            b.rope = rope;
            b.gone = gone;
            b.leave = leave;
            b.loosened = loosened;
            b.drifted = drifted;
            b.sold = sold;
            b.bought = bought;
            return b;
        }

        int misses() {
            int all = 0;
            for (int g = 0; g < 4; g++) {
                all += wants[g] > has[g] ? wants[g] - has[g] : 0;
            }
            return all;
        }
    }

    private static final class Model {
        List<Integer> sizes = new ArrayList<>();
        List<List<Integer>> rows = new ArrayList<>();
        List<Boat> boats = new ArrayList<>();
        int[][] water = new int[24][2];
        int step;
        int paid;

        Model() {
            for (int[] entry : water) {
                entry[0] = 9;
            }
        }

        Model copy() {
            Model m = new Model();
            m.sizes.addAll(sizes);
            for (List<Integer> row : rows) {
                m.rows.add(new ArrayList<>(row));
            }
            for (Boat boat : boats) {
                m.boats.add(boat.copy());
            }
            m.water = water;
            m.step = step;
            m.paid = paid;
            return m;
        }

        int rowOf(int c) {
            for (int r = 0; r < rows.size(); r++) {
                if (rows.get(r).contains(c)) {
                    return r;
                }
            }
            return -1;
        }

        int placeOf(int c) {
            int r = rowOf(c);
            return r < 0 ? -1 : rows.get(r).indexOf(c);
        }

        boolean fullRow(int r) {
            return rows.get(r).size() == sizes.get(r);
        }

        boolean besideEachOther(int a, int b) {
            int ra = rowOf(a);
            int rb = rowOf(b);
            if (ra < 0 || rb < 0) {
                return false;
            }
            int pa = placeOf(a);
            int pb = placeOf(b);
            return ra == rb && (pa - pb == 1 || pb - pa == 1)
                    || pa == pb && (ra - rb == 1 || rb - ra == 1);
        }

        boolean dry(int c) {
            return placeOf(c) + water[step % 24][0] < 4;
        }

        int takeOut(int c) {
            List<Integer> row = rows.get(rowOf(c));
            int place = row.indexOf(c);
            row.remove(place);
            for (int p = place; p < row.size(); p++) {
                boats.get(row.get(p)).loosened++;
            }
            return row.size() - place;
        }

        void goOn(int steps) {
            for (int i = 0; i < steps; i++) {
                drift();
                leave();
                trade();
                step++;
            }
        }

        void drift() {
            for (Boat boat : boats) {
                boat.driftedNow = false;
            }
            for (int r = 0; r < rows.size(); r++) {
                if (rows.get(r).isEmpty()) {
                    continue;
                }
                int c = rows.get(r).get(rows.get(r).size() - 1);
                Boat boat = boats.get(c);
                if (boat.rope >= water[step % 24][1] || boat.driftedNow) {
                    continue;
                }
                boat.driftedNow = true;
                boat.drifted++;
                rows.get(r).remove(Integer.valueOf(c));
                for (int next = r + 1; next < r + rows.size(); next++) {
                    if (!fullRow(next % rows.size())) {
                        rows.get(next % rows.size()).add(c);
                        break;
                    }
                }
            }
        }

        void leave() {
            for (int c = 0; c < boats.size(); c++) {
                Boat boat = boats.get(c);
                if (rowOf(c) >= 0 && boat.leave >= 0 && boat.leave <= step && !dry(c)) {
                    takeOut(c);
                    boat.gone = true;
                }
            }
        }

        void trade() {
            for (int c = 0; c < boats.size(); c++) {
                for (int g = 0; g < 4; g++) {
                    buy(c, g);
                }
            }
        }

        void buy(int c, int g) {
            Boat buyer = boats.get(c);
            if (rowOf(c) < 0 || buyer.wants[g] <= buyer.has[g]) {
                return;
            }
            Boat best = null;
            for (int s = 0; s < boats.size(); s++) {
                Boat seller = boats.get(s);
                int price = seller.price[g];
                if (besideEachOther(c, s) && price > 0 && price <= buyer.pays[g]
                        && price <= buyer.coins && seller.has[g] > seller.wants[g]
                        && (best == null || price < best.price[g])) {
                    best = seller;
                }
            }
            if (best != null) {
                best.has[g]--;
                best.sold++;
                best.coins += best.price[g];
                buyer.has[g]++;
                buyer.bought++;
                buyer.coins -= best.price[g];
                paid += best.price[g];
            }
        }

        int allSold() {
            int all = 0;
            for (Boat boat : boats) {
                all += boat.sold;
            }
            return all;
        }

        void isCanoe(int c) throws Refused {
            index(in(c, 0, boats.size() - 1));
        }

        int canoe(int c, int what) {
            Boat b = boats.get(c);
            int where = b.gone ? 2 : rowOf(c) >= 0 ? 1 : 0;
            return new int[] {b.coins, b.rope, where, rowOf(c), placeOf(c), b.leave, b.loosened,
                b.drifted, b.sold, b.bought, b.misses()}[what];
        }

        int good(int c, int g, int what) {
            Boat b = boats.get(c);
            return new int[] {b.has[g], b.price[g], b.wants[g], b.pays[g]}[what];
        }

        int at(int r, int p) {
            return p < rows.get(r).size() ? rows.get(r).get(p) : -1;
        }

        int count(int what) {
            int[] x = new int[12];
            x[0] = step;
            x[1] = rows.size();
            x[2] = boats.size();
            for (int c = 0; c < boats.size(); c++) {
                Boat b = boats.get(c);
                x[3] += rowOf(c) >= 0 ? 1 : 0;
                x[4] += b.gone ? 1 : 0;
                x[5] += b.coins;
                for (int g = 0; g < 4; g++) {
                    x[6] += b.has[g];
                }
                x[9] += b.loosened;
                x[10] += b.drifted;
                x[11] += rowOf(c) >= 0 && dry(c) ? 1 : 0;
            }
            x[7] = allSold();
            x[8] = paid;
            return x[what];
        }

        long digest() {
            long d = 683;
            for (int what = 0; what < 12; what++) {
                d = d * 31 + count(what);
            }
            for (int[] entry : water) {
                d = d * 31 + 10 * entry[0] + entry[1];
            }
            for (int r = 0; r < rows.size(); r++) {
                d = d * 31 + sizes.get(r);
                for (int p = 0; p < sizes.get(r); p++) {
                    d = d * 31 + at(r, p);
                }
            }
            for (int c = 0; c < boats.size(); c++) {
                for (int what = 0; what < 11; what++) {
                    d = d * 31 + canoe(c, what);
                }
                for (int i = 0; i < 16; i++) {
                    d = d * 31 + good(c, i / 4, i % 4);
                }
            }
            return d;
        }

        long call(int kind, int[] a) throws Refused {
            switch (kind) {
                case 0: {
                    argument(in(a[0], 1, 6));
                    state(rows.size() < 4);
                    sizes.add(a[0]);
                    rows.add(new ArrayList<>());
                    return rows.size() - 1;
                }
                case 1: {
                    index(in(a[0], 0, 23));
                    argument(in(a[1], 0, 9) && in(a[2], 0, 9));
                    int before = 10 * water[a[0]][0] + water[a[0]][1];
                    water[a[0]] = new int[] {a[1], a[2]};
                    return before;
                }
                case 2: {
                    argument(in(a[0], 0, 500) && in(a[1], 0, 9));
                    state(boats.size() < 14);
                    Boat boat = new Boat();
                    boat.coins = a[0];
                    boat.rope = a[1];
                    boats.add(boat);
                    return boats.size() - 1;
                }
                case 3: {
                    isCanoe(a[0]);
                    index(in(a[1], 0, 3));
                    argument(in(a[2], 1, 40));
                    Boat boat = boats.get(a[0]);
                    state(!boat.gone && boat.has[a[1]] + a[2] <= 100);
                    boat.has[a[1]] += a[2];
                    return boat.has[a[1]];
                }
                case 4: {
                    isCanoe(a[0]);
                    index(in(a[1], 0, 3));
                    argument(in(a[2], 0, 20) && in(a[4], 0, 20) && in(a[3], 0, 40));
                    Boat boat = boats.get(a[0]);
                    boat.price[a[1]] = a[2];
                    boat.wants[a[1]] = a[3];
                    boat.pays[a[1]] = a[4];
                    return Math.max(0, a[3] - boat.has[a[1]]);
                }
                case 5: {
                    isCanoe(a[0]);
                    index(in(a[1], 0, rows.size() - 1));
                    state(!boats.get(a[0]).gone && rowOf(a[0]) < 0 && !fullRow(a[1]));
                    rows.get(a[1]).add(a[0]);
                    return placeOf(a[0]);
                }
                case 6: {
                    isCanoe(a[0]);
                    state(rowOf(a[0]) >= 0 && !dry(a[0]));
                    return takeOut(a[0]);
                }
                case 7: {
                    isCanoe(a[0]);
                    argument(a[1] == -1 || a[1] >= step);
                    Boat boat = boats.get(a[0]);
                    state(!boat.gone);
                    int before = boat.leave;
                    boat.leave = a[1];
                    return before;
                }
                default:
                    return look(kind, a);
            }
        }

        long look(int kind, int[] a) throws Refused {
            switch (kind) {
                case 8:
                    isCanoe(a[0]);
                    index(in(a[1], 0, 10));
                    return canoe(a[0], a[1]);
                case 9:
                    isCanoe(a[0]);
                    index(in(a[1], 0, 3) && in(a[2], 0, 3));
                    return good(a[0], a[1], a[2]);
                case 10:
                    index(in(a[0], 0, rows.size() - 1));
                    index(in(a[1], 0, sizes.get(a[0]) - 1));
                    return at(a[0], a[1]);
                case 11:
                    isCanoe(a[0]);
                    isCanoe(a[1]);
                    return besideEachOther(a[0], a[1]) ? 1 : 0;
                case 12: {
                    argument(in(a[0], 1, 200));
                    int before = allSold();
                    goOn(a[0]);
                    return allSold() - before;
                }
                case 13:
                    index(in(a[0], 0, 11));
                    return count(a[0]);
                case 14: {
                    isCanoe(a[0]);
                    index(in(a[2], 0, 2));
                    argument(in(a[1], 1, 150));
                    Model then = copy();
                    then.goOn(a[1]);
                    return then.canoe(a[0], new int[] {0, 10, 3}[a[2]]);
                }
                case 15:
                    isCanoe(a[0]);
                    return until(a[0], 10, 0);
                case 16:
                    isCanoe(a[0]);
                    return until(a[0], 2, 2);
                case 17:
                    isCanoe(a[0]);
                    argument(in(a[1], 1, 60));
                    state(!boats.get(a[0]).gone && rowOf(a[0]) < 0);
                    return bestRow(a[0], a[1]);
                case 18:
                    isCanoe(a[0]);
                    index(in(a[1], 0, 3));
                    argument(in(a[2], 1, 40));
                    return bestPrice(a[0], a[1], a[2]);
                case 19:
                    return Double.doubleToLongBits(
                            allSold() == 0 ? 0.0 : 1.0 * paid / allSold());
                default:
                    return digest();
            }
        }

        int until(int c, int what, int due) {
            Model then = copy();
            for (int k = 0; k <= 150; k++) {
                if (then.canoe(c, what) == due) {
                    return k;
                }
                then.goOn(1);
            }
            return -1;
        }

        int bestRow(int c, int steps) {
            int best = -1;
            int most = 0;
            for (int r = rows.size() - 1; r >= 0; r--) {
                if (!fullRow(r)) {
                    Model then = copy();
                    then.rows.get(r).add(c);
                    then.goOn(steps);
                    if (best < 0 || then.boats.get(c).coins >= most) {
                        best = r;
                        most = then.boats.get(c).coins;
                    }
                }
            }
            return best;
        }

        int bestPrice(int c, int g, int steps) {
            int best = 0;
            int most = -1;
            for (int price = 20; price >= 1; price--) {
                Model then = copy();
                then.boats.get(c).price[g] = price;
                then.goOn(steps);
                int sold = then.boats.get(c).sold - boats.get(c).sold;
                if (sold >= most) {
                    best = price;
                    most = sold;
                }
            }
            return best;
        }
    }

    private static final String[] NAMES = {"addRow", "setWater", "addCanoe", "load", "offer", "moor",
        "castOff", "leaveIn", "canoe", "good", "at", "beside", "pass", "count", "foresee", "full",
        "gone", "advise", "price", "mean", "digest"};
    /** How often a call of a kind comes, of 200. */
    private static final int[] WEIGHTS = {6, 14, 14, 24, 30, 30, 8, 12, 6, 4, 4, 5, 14, 5, 6, 4, 4, 4, 4,
        1, 1};

    private static long real(FloatMarket m, int kind, int[] a) {
        switch (kind) {
            case 0: return m.addRow(a[0]);
            case 1: return m.setWater(a[0], a[1], a[2]);
            case 2: return m.addCanoe(a[0], a[1]);
            case 3: return m.load(a[0], a[1], a[2]);
            case 4: return m.offer(a[0], a[1], a[2], a[3], a[4]);
            case 5: return m.moor(a[0], a[1]);
            case 6: return m.castOff(a[0]);
            case 7: return m.leaveIn(a[0], a[1]);
            case 8: return m.canoe(a[0], a[1]);
            case 9: return m.good(a[0], a[1], a[2]);
            case 10: return m.at(a[0], a[1]);
            case 11: return m.beside(a[0], a[1]) ? 1 : 0;
            case 12: return m.pass(a[0]);
            case 13: return m.count(a[0]);
            case 14: return m.foresee(a[0], a[1], a[2]);
            case 15: return m.full(a[0]);
            case 16: return m.gone(a[0]);
            case 17: return m.advise(a[0], a[1]);
            case 18: return m.price(a[0], a[1], a[2]);
            case 19: return Double.doubleToLongBits(m.mean());
            default: return m.digest();
        }
    }

    private static int[] arguments(int kind, Model m, int calmness) {
        int c = around(0, Math.max(0, m.boats.size() - 1));
        int r = around(0, Math.max(0, m.rows.size() - 1));
        int g = around(0, 3);
        int soon = below(3) == 0 ? -1 : m.step + below(20) - 2;
        int wake = below(calmness) == 0 ? around(0, 9) : 0;
        int tide = below(calmness) == 0 ? around(0, 9) : 9;
        int price = below(3) == 0 ? 0 : around(0, 20);
        switch (kind) {
            case 0: return new int[] {around(1, 6)};
            case 1: return new int[] {around(0, 23), tide, wake};
            case 2: return new int[] {around(0, below(2) == 0 ? 500 : 20), around(0, 9)};
            case 3: return new int[] {c, g, around(1, 40)};
            case 4: return new int[] {c, g, price, below(2) == 0 ? 0 : around(0, 40), around(0, 20)};
            case 5: return new int[] {c, r};
            case 7: return new int[] {c, soon};
            case 8: return new int[] {c, around(0, 10)};
            case 9: return new int[] {c, g, around(0, 3)};
            case 10: return new int[] {r, around(0, 5)};
            case 11: return new int[] {c, around(0, Math.max(0, m.boats.size() - 1))};
            case 12: return new int[] {below(8) == 0 ? around(1, 200) : around(1, 5)};
            case 13: return new int[] {around(0, 11)};
            case 14: return new int[] {c, around(1, 150), around(0, 2)};
            case 17: return new int[] {c, around(1, 60)};
            case 18: return new int[] {c, g, around(1, 40)};
            default: return new int[] {c};
        }
    }

    private static int kindOfCall() {
        int number = below(200);
        for (int kind = 0; kind < WEIGHTS.length; kind++) {
            number -= WEIGHTS[kind];
            if (number < 0) {
                return kind;
            }
        }
        return WEIGHTS.length - 1;
    }

    private static String due(Model model, int kind, int[] a) {
        try {
            return "" + model.call(kind, a);
        } catch (Refused e) {
            return e.kind.getName();
        }
    }

    private static String got(FloatMarket market, int kind, int[] a) {
        try {
            return "" + real(market, kind, a);
        } catch (RuntimeException e) {
            return e.getClass().getName();
        }
    }

    private static String run(int number) {
        FloatMarket market = new FloatMarket();
        Model model = new Model();
        int calmness = 1 + number % 4;
        for (int call = 0; call < CALLS; call++) {
            int kind = call < 3 ? 0 : call < 10 ? 2 : kindOfCall();
            int[] a = arguments(kind, model, calmness);
            String due = due(model, kind, a);
            String got = got(market, kind, a);
            String what = "run " + number + ", call " + call + ": " + NAMES[kind]
                    + java.util.Arrays.toString(a);
            if (!due.equals(got)) {
                return what + " answered " + got + ", due is " + due;
            }
            if (model.digest() != market.digest()) {
                return what + " leaves another state";
            }
        }
        return "";
    }

    public static void main(String[] args) {
        for (int number = 0; number < RUNS; number++) {
            String fault = run(number);
            if (!fault.isEmpty()) {
                wrong++;
                System.out.println(fault);
            }
        }
        System.out.println(wrong == 0 ? "all runs agree" : wrong + " runs differ");
        if (wrong != 0) {
            System.exit(1);
        }
    }
}
