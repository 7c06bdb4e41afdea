import java.util.ArrayList;
import java.util.List;
import java.util.Random;
import java.util.TreeSet;

/**
 * Long runs of calls against a second reading of the document, as slow and plain as can be: it keeps
 * every accepted call as a row of numbers and works all else out anew each time.
 */
public final class FindsOfficeModel {
    private static final int RUNS = 300;
    private static final int CALLS = 511;

    private int now = 0;
    private final List<int[]> laws = new ArrayList<>();
    private final List<int[]> owners = new ArrayList<>();
    private final List<int[]> finds = new ArrayList<>();
    private final List<int[]> parted = new ArrayList<>();
    private final List<int[]> indexes = new ArrayList<>();
    private final List<int[]> sales = new ArrayList<>();
    private final List<long[]> payments = new ArrayList<>();
    private final List<int[]> museums = new ArrayList<>();
    private final List<int[]> taken = new ArrayList<>();

    public static void main(String[] args) {
        for (int run = 0; run < RUNS; run++) {
            if (!runAgrees(run)) {
                System.exit(1);
            }
        }
        System.out.println("the model agrees in " + RUNS + " runs");
    }

    private static boolean runAgrees(int run) {
        Random random = new Random(run);
        FindsOffice office = new FindsOffice();
        FindsOfficeModel model = new FindsOfficeModel();
        int rate = random.nextInt(3);
        for (int call = 0; call < CALLS; call++) {
            int kind = kindOfCall(random, call, rate);
            int[] a = arguments(random, kind, model, run);
            long got = ask(office, kind, a);
            long want = model.answer(kind, a);
            if (got != want) {
                System.out.println("run " + run + ", call " + call + ", kind " + kind + " "
                        + java.util.Arrays.toString(a) + " answered " + got + ", due is " + want);
                return false;
            }
        }
        return true;
    }

    /** The first half of most runs tells much, so that there is something to ask for. */
    private static int kindOfCall(Random r, int call, int rate) {
        int[] telling = {2, 3, 4, 5, 5, 5, 5, 6, 12, 13, 13, 21, 22, 17};
        if (r.nextInt(call < 256 ? 3 : 8) < rate) {
            return telling[r.nextInt(telling.length)];
        }
        return 2 + r.nextInt(23);
    }

    private static int edgy(Random r, int least, int most) {
        int roll = r.nextInt(60);
        if (roll == 0) {
            return least - 1;
        }
        if (roll == 1) {
            return most + 1;
        }
        if (roll == 2) {
            return r.nextInt();
        }
        if (roll < 5) {
            return least;
        }
        return roll < 7 ? most : least + r.nextInt(most - least + 1);
    }

    private static int[] arguments(Random r, int kind, FindsOfficeModel m, int run) {
        int find = edgy(r, 0, Math.max(0, m.finds.size() - 1));
        int past = r.nextInt(4) == 0 ? m.now : edgy(r, 0, m.now);
        int wide = run % 2 == 0 ? 60 : 1000;
        switch (kind) {
            case 2: return new int[] {r.nextInt(20) == 0 ? edgy(r, 0, 20000) : edgy(r, 0, 400)};
            case 3: return new int[] {r.nextBoolean() ? edgy(r, 0, m.now) : edgy(r, 0, 20000),
                edgy(r, 0, r.nextBoolean() ? 900 : 2000) * 1000000 + edgy(r, 0, 999) * 1000
                + edgy(r, 0, 100), edgy(r, 1, r.nextBoolean() ? 5 : 50)};
            case 4: return new int[] {r.nextBoolean() ? 0 : edgy(r, 0, 99), r.nextBoolean() ? past : edgy(r, 0, 20000),
                edgy(r, 0, 29)};
            case 5: return findArguments(r, past, wide);
            case 6: return new int[] {find, edgy(r, 0, Math.max(0, m.finds.size() - 1))};
            case 8: case 10: return new int[] {find, past};
            case 11: return new int[] {find, edgy(r, 0, 9)};
            case 12: return new int[] {edgy(r, 1950, r.nextBoolean() ? 1953 : 2004), edgy(r, 1, r.nextBoolean() ? 10 : 10000)};
            case 13: return new int[] {edgy(r, 0, 2), past, edgy(r, 1, 10000), edgy(r, 0, r.nextBoolean() ? 100 : 1000000)};
            case 15: return new int[] {find, edgy(r, 0, r.nextBoolean() ? 3 : 29)};
            case 16: case 17: case 18: return new int[] {edgy(r, 0, r.nextBoolean() ? 3 : 29)};
            case 19: return new int[] {find, edgy(r, 0, 3)};
            case 20: return withinArguments(r);
            case 21: return new int[] {edgy(r, 0, 7), edgy(r, 0, r.nextBoolean() ? 1000 : 1000000)};
            case 23: return new int[] {edgy(r, 0, Math.max(0, m.museums.size() - 1))};
            case 24: return new int[] {edgy(r, 0, 8)};
            default: return new int[] {find};
        }
    }

    private static int[] findArguments(Random r, int past, int wide) {
        int first = r.nextInt(900);
        int last = first + r.nextInt(400) - 5;
        int when = r.nextInt(10) == 0 ? edgy(r, 0, 5000) * 10000 + edgy(r, 0, 5000)
                : (first + 3000) * 10000 + last + 3000;
        int where = edgy(r, 0, Math.min(999, wide)) * 1000 + edgy(r, 0, Math.min(999, wide));
        int what = edgy(r, 0, 2) * 100000000 + edgy(r, 0, 1000) * 10000
                + (r.nextBoolean() ? r.nextInt(50) : r.nextInt(10000));
        int who = edgy(r, 0, r.nextBoolean() ? 3 : 29) + 100 * past;
        return new int[] {where, what, when, who};
    }

    private static int[] withinArguments(Random r) {
        int rank = edgy(r, 0, 3);
        int width = rank == 0 ? 500 : rank == 1 ? 100 : rank == 2 ? 10 : 1;
        int[] edges = new int[4];
        for (int i = 0; i < 4; i++) {
            edges[i] = r.nextInt(30) == 0 ? edgy(r, 0, 1000) : width * r.nextInt(1000 / width + 1);
        }
        if (r.nextInt(4) != 0) {
            int a = Math.min(edges[0], edges[2]);
            edges[2] = Math.max(edges[0], edges[2]);
            edges[0] = a;
            int c = Math.min(edges[1], edges[3]);
            edges[3] = Math.max(edges[1], edges[3]);
            edges[1] = c;
        }
        return new int[] {edges[0] * 1001 + edges[1], edges[2] * 1001 + edges[3], rank};
    }

    private static long ask(FindsOffice x, int kind, int[] a) {
        switch (kind) {
            case 2: return x.go(a[0]);
            case 3: return x.law(a[0], a[1], a[2]);
            case 4: return x.owner(a[0], a[1], a[2]) ? 1 : 0;
            case 5: return x.find(a[0], a[1], a[2], a[3]);
            case 6: return x.part(a[0], a[1]) ? 1 : 0;
            case 7: return x.hoard(a[0]);
            case 8: return x.size(a[0], a[1]);
            case 9: return x.counts(a[0]) ? 1 : 0;
            case 10: return x.counted(a[0], a[1]) ? 1 : 0;
            case 11: return x.told(a[0], a[1]);
            case 12: return x.index(a[0], a[1]) ? 1 : 0;
            case 13: return x.sale(a[0], a[1], a[2], a[3]);
            case 14: return x.worth(a[0]);
            case 15: return x.share(a[0], a[1]);
            case 16: return x.due(a[0]);
            case 17: return x.settle(a[0]);
            case 18: return x.paid(a[0]);
            case 19: return x.place(a[0], a[1]);
            case 20: return x.within(a[0], a[1], a[2]);
            case 21: return x.museum(a[0], a[1]);
            case 22: return x.offer(a[0]);
            case 23: return x.spent(a[0]);
            default: return x.count(a[0]);
        }
    }

    private long answer(int kind, int[] a) {
        switch (kind) {
            case 2: return go(a[0]);
            case 3: return law(a);
            case 4: return owner(a);
            case 5: return find(a);
            case 6: return part(a[0], a[1]);
            case 7: return isFind(a[0]) ? hoard(a[0], now).first() : -1;
            case 8: return isKnown(a[0], a[1]) ? hoard(a[0], a[1]).size() : -1;
            case 9: return isFind(a[0]) && counts(a[0], now) ? 1 : 0;
            case 10: return isKnown(a[0], a[1]) && counts(a[0], a[1]) ? 1 : 0;
            case 11: return told(a[0], a[1]);
            case 12: return index(a);
            case 13: return sale(a);
            case 14: return isFind(a[0]) ? worth(a[0]) : -1;
            case 15: return isFind(a[0]) && isPerson(a[1]) ? share(a[0], a[1]) : 0;
            case 16: return isPerson(a[0]) ? due(a[0]) : 0;
            case 17: return isPerson(a[0]) ? settle(a[0]) : 0;
            case 18: return isPerson(a[0]) ? paid(a[0]) : 0;
            case 19: return place(a[0], a[1]);
            case 20: return within(a[0], a[1], a[2]);
            case 21: return museum(a);
            case 22: return offer(a[0]);
            case 23: return spent(a[0]);
            default: return count(a[0]);
        }
    }

    private static boolean in(long value, long least, long most) {
        return least <= value && value <= most;
    }

    private boolean isFind(int find) {
        return in(find, 0, finds.size() - 1);
    }

    private boolean isPerson(int person) {
        return in(person, 0, 29);
    }

    private boolean isKnown(int find, int day) {
        return isFind(find) && in(day, 0, now) && finds.get(find)[10] <= day;
    }

    private long go(int n) {
        if (!in(n, 0, 20000)) {
            return -1;
        }
        now = Math.min(20000, now + n);
        return now;
    }

    // A law: day, AGE, PARTS, SHARE, TOGETHER.
    private long law(int[] a) {
        int age = a[1] / 1000000;
        int percent = a[1] % 1000;
        if (!in(a[0], 0, 20000) || a[1] < 0 || age > 2000 || percent > 100 || !in(a[2], 1, 50) || laws.size() == 20) {
            return -1;
        }
        laws.add(new int[] {a[0], age, a[1] / 1000 % 1000, percent, a[2]});
        return laws.size();
    }

    private long owner(int[] a) {
        if (!in(a[0], 0, 99) || !in(a[1], 0, 20000) || !isPerson(a[2]) || owners.size() == 100) {
            return 0;
        }
        owners.add(a);
        return 1;
    }

    // A find: x, y, metal, purity, weight, first, last, person, day found, museum, day known.
    private long find(int[] a) {
        if (finds.size() == 50 || a[0] < 0 || a[1] < 0 || a[2] < 0 || a[3] < 0) {
            return -1;
        }
        int weight = a[1] % 10000;
        int[] f = {a[0] / 1000, a[0] % 1000, a[1] / 100000000, a[1] % 100000000 / 10000, weight == 0 ? 10000 : weight,
            a[2] / 10000 - 3000, a[2] % 10000 - 3000, a[3] % 100, a[3] / 100, -1, now};
        boolean good = f[0] <= 999 && f[2] <= 2 && f[3] <= 1000 && f[5] <= 2000 && f[6] <= 2000 && f[5] <= f[6]
                && f[7] <= 29 && f[8] <= now;
        if (!good) {
            return -1;
        }
        finds.add(f);
        return finds.size() - 1;
    }

    private boolean areParted(int a, int b, int day) {
        for (int[] pair : parted) {
            boolean same = pair[0] == a && pair[1] == b || pair[0] == b && pair[1] == a;
            if (same && pair[2] <= day) {
                return true;
            }
        }
        return false;
    }

    private long part(int a, int b) {
        if (!isFind(a) || !isFind(b) || a == b || areParted(a, b, now)) {
            return 0;
        }
        parted.add(new int[] {a, b, now});
        return 1;
    }

    private boolean joined(int a, int b, int day) {
        int[] f = finds.get(a);
        int[] g = finds.get(b);
        boolean near = in(f[0] - g[0], -10, 10) && in(f[1] - g[1], -10, 10);
        boolean alike = Math.max(f[5], g[5]) <= Math.min(f[6], g[6]);
        return near && alike && !areParted(a, b, day);
    }

    private TreeSet<Integer> hoard(int find, int day) {
        TreeSet<Integer> all = new TreeSet<>();
        reach(find, day, all);
        return all;
    }

    private void reach(int find, int day, TreeSet<Integer> all) {
        if (!all.add(find)) {
            return;
        }
        for (int other = 0; other < finds.size(); other++) {
            if (finds.get(other)[10] <= day && !all.contains(other) && joined(find, other, day)) {
                reach(other, day, all);
            }
        }
    }

    private int[] latest(List<int[]> rows, int dayAt, int day, int plot) {
        int[] best = null;
        for (int wanted = day; wanted >= 0 && best == null; wanted--) {
            for (int[] row : rows) {
                if (row[dayAt] == wanted && (plot < 0 || row[0] == plot)) {
                    best = row;
                }
            }
        }
        return best;
    }

    private boolean counts(int find, int day) {
        int[] f = finds.get(find);
        int[] law = latest(laws, 0, f[8], -1);
        if (law == null || f[6] + law[1] > 1950 + f[8] / 365) {
            return false;
        }
        return f[2] > 0 && f[3] >= law[2] || hoard(find, day).size() >= law[4];
    }

    private int landowner(int find) {
        int[] f = finds.get(find);
        int[] row = latest(owners, 1, f[8], f[0] / 100 * 10 + f[1] / 100);
        return row == null ? 0 : row[2];
    }

    private long told(int find, int what) {
        if (!isFind(find) || !in(what, 0, 9)) {
            return -2147483648;
        }
        int[] f = finds.get(find);
        int[] all = {f[8], f[10], f[2], f[3], f[4], f[5], f[6], f[7], landowner(find), f[9]};
        return all[what];
    }

    private long index(int[] a) {
        if (!in(a[0], 1950, 2004) || !in(a[1], 1, 10000)) {
            return 0;
        }
        indexes.add(a);
        return 1;
    }

    private long indexOn(int day) {
        long value = 100;
        for (int[] row : indexes) {
            value = row[0] == 1950 + day / 365 ? row[1] : value;
        }
        return value;
    }

    private long sale(int[] a) {
        if (!in(a[0], 0, 2) || !in(a[1], 0, now) || !in(a[2], 1, 10000) || !in(a[3], 0, 1000000) || sales.size() == 60) {
            return -1;
        }
        sales.add(a);
        return sales.stream().filter(row -> row[0] == a[0]).count();
    }

    private long worth(int find) {
        int[] f = finds.get(find);
        long prices = 0;
        long weights = 0;
        for (int[] row : sales) {
            if (row[0] == f[2]) {
                prices += row[3] * indexOn(now) / indexOn(row[1]);
                weights += row[2];
            }
        }
        return weights == 0 ? 0 : Math.min(1000000, prices * f[4] / weights);
    }

    private long share(int find, int person) {
        if (!counts(find, now)) {
            return 0;
        }
        int[] f = finds.get(find);
        long whole = worth(find);
        long finders = whole * latest(laws, 0, f[8], -1)[3] / 100;
        return (f[7] == person ? finders : 0) + (landowner(find) == person ? whole - finders : 0);
    }

    private long paid(int person) {
        long sum = 0;
        for (long[] row : payments) {
            sum += row[0] == person ? row[1] : 0;
        }
        return sum;
    }

    private long due(int person) {
        long sum = -paid(person);
        for (int find = 0; find < finds.size(); find++) {
            sum += share(find, person);
        }
        return sum;
    }

    private long settle(int person) {
        long open = due(person);
        payments.add(new long[] {person, open});
        return open;
    }

    private static int width(int rank) {
        return rank == 0 ? 500 : rank == 1 ? 100 : rank == 2 ? 10 : 1;
    }

    private long place(int find, int rank) {
        if (!isFind(find) || !in(rank, 0, 3)) {
            return -1;
        }
        int[] f = finds.get(find);
        return f[0] / width(rank) * width(rank) * 1000 + f[1] / width(rank) * width(rank);
    }

    private long within(int corner, int other, int rank) {
        if (!in(rank, 0, 3) || !in(corner, 0, 1002000) || !in(other, 0, 1002000)) {
            return -1;
        }
        int[] e = {corner / 1001, corner % 1001, other / 1001, other % 1001};
        for (int number : e) {
            if (number % width(rank) != 0) {
                return -1;
            }
        }
        if (e[2] <= e[0] || e[3] <= e[1]) {
            return -1;
        }
        return finds.stream().filter(f -> f[0] >= e[0] && f[0] < e[2] && f[1] >= e[1] && f[1] < e[3]).count();
    }

    private long museum(int[] a) {
        if (!in(a[0], 0, 7) || !in(a[1], 0, 1000000) || museums.size() == 10) {
            return -1;
        }
        museums.add(a);
        return museums.size() - 1;
    }

    // Taken: museum, price.
    private int turn() {
        return taken.isEmpty() ? 0 : (taken.get(taken.size() - 1)[0] + 1) % museums.size();
    }

    private long offer(int find) {
        if (!isFind(find) || finds.get(find)[9] >= 0 || !counts(find, now)) {
            return -1;
        }
        int price = (int) worth(find);
        int bit = new int[] {1, 2, 4}[finds.get(find)[2]];
        for (int step = 0; step < museums.size(); step++) {
            int number = (turn() + step) % museums.size();
            if ((museums.get(number)[0] & bit) != 0 && price <= museums.get(number)[1]) {
                finds.get(find)[9] = number;
                taken.add(new int[] {number, price});
                return number;
            }
        }
        return -1;
    }

    private long spent(int museum) {
        if (!in(museum, 0, museums.size() - 1)) {
            return -1;
        }
        return taken.stream().filter(row -> row[0] == museum).mapToLong(row -> row[1]).sum();
    }

    private long count(int what) {
        if (!in(what, 0, 8)) {
            return -1;
        }
        long hoards = 0;
        long treasures = 0;
        for (int find = 0; find < finds.size() && (what == 2 || what == 7); find++) {
            hoards += hoard(find, now).first() == find ? 1 : 0;
            treasures += counts(find, now) ? 1 : 0;
        }
        long[] all = {now, finds.size(), hoards, laws.size(), sales.size(), museums.size(), parted.size(), treasures,
            museums.isEmpty() ? -1 : turn()};
        return all[what];
    }
}
