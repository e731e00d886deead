import java.math.BigInteger;
import java.util.ArrayList;
import java.util.Arrays;
import java.util.Collections;
import java.util.HashMap;
import java.util.List;
import java.util.Map;
import java.util.NoSuchElementException;
import java.util.TreeMap;
import java.util.regex.Matcher;
import java.util.regex.Pattern;

/**
 * The document once more, word by word and without a thought of speed or room: what CoalStreet is compared with.
 * Where the class reckons by tables and by the simplex algorithm, this one tries all that there is.
 */
final class Plain {
    static final int NONE = -1;

    /** A TARIFF. */
    static final class Terms {
        boolean above = false;
        TreeMap<Integer, Integer> steps = new TreeMap<>();
        List<int[]> carts = new ArrayList<>();
        int gather = 0;
        int keep = 0;
        int months = 1;
        int[] rises = new int[6];
        int late = 0;
        String rule = "parts";

        Terms copy() {
            Terms c = new Terms();
            c.above = above;
            c.steps = new TreeMap<>(steps);
            c.carts = new ArrayList<>(carts);
            c.gather = gather;
            c.keep = keep;
            c.months = months;
            c.rises = rises.clone();
            c.late = late;
            c.rule = rule;
            return c;
        }
    }

    static final class House {
        int cellar;
        int[] wants = new int[6];
        boolean[] barred = new boolean[7];
        boolean[] trusts = new boolean[7];
        int pay = 0;
        List<int[]> doubts = new ArrayList<>();

        House copy() {
            House c = new House();
            c.cellar = cellar;
            c.wants = wants.clone();
            c.barred = barred.clone();
            c.trusts = trusts.clone();
            c.pay = pay;
            c.doubts = new ArrayList<>(doubts);
            return c;
        }
    }

    private static final class Shot {
        List<House> houses = new ArrayList<>();
        Terms terms;
        int d;
    }

    List<House> houses = new ArrayList<>();
    Terms terms = new Terms();
    int d = 1;
    private final List<Byte> tape = new ArrayList<>();
    private int kind = 0;
    private int place = NONE;
    private BigInteger upper = BigInteger.ZERO;
    private BigInteger lower = BigInteger.ZERO;
    private final long[][] trays = new long[4][];
    private final int[] sorts = new int[4];
    private final Shot[] shots = new Shot[3];
    /** What was reckoned since the last change. */
    private final Map<Object, Object> memo = new HashMap<>();

    // ---- the street

    int house(int cellar) {
        illegal(cellar < 0 || cellar > 8);
        if (houses.size() == 7) {
            return NONE;
        }
        House h = new House();
        h.cellar = cellar;
        houses.add(h);
        memo.clear();
        return houses.size() - 1;
    }

    int want(int house, int month, int sacks) {
        House h = at(house);
        absent(month < 0 || month > 5);
        illegal(sacks < 0 || sacks > 8);
        int was = h.wants[month];
        h.wants[month] = sacks;
        memo.clear();
        return was;
    }

    int cellar(int house, int sacks) {
        House h = at(house);
        illegal(sacks < 0 || sacks > 8);
        int was = h.cellar;
        h.cellar = sacks;
        memo.clear();
        return was;
    }

    boolean bar(int a, int b) {
        House one = at(a);
        House two = at(b);
        illegal(a == b);
        boolean were = one.barred[b];
        one.barred[b] = true;
        two.barred[a] = true;
        memo.clear();
        return !were;
    }

    boolean trust(int one, int other, boolean is) {
        House h = at(one);
        at(other);
        illegal(one == other);
        boolean was = h.trusts[other];
        h.trusts[other] = is;
        memo.clear();
        return was;
    }

    int holder(int set) {
        legal(set);
        return holderOf(members(set));
    }

    private int holderOf(List<Integer> all) {
        for (int h : all) {
            boolean trusted = true;
            for (int other : all) {
                trusted &= other == h || houses.get(other).trusts[h];
            }
            if (trusted) {
                return h;
            }
        }
        return NONE;
    }

    int chain(int one, int other) {
        at(one);
        at(other);
        int n = houses.size();
        int[][] far = new int[n][n];
        for (int i = 0; i < n; i++) {
            for (int j = 0; j < n; j++) {
                far[i][j] = i == j ? 0 : houses.get(i).trusts[j] ? 1 : 1000;
            }
        }
        for (int k = 0; k < n; k++) {
            for (int i = 0; i < n; i++) {
                for (int j = 0; j < n; j++) {
                    far[i][j] = Math.min(far[i][j], far[i][k] + far[k][j]);
                }
            }
        }
        return far[one][other] >= 1000 ? NONE : far[one][other];
    }

    // ---- the tariff

    int feed(int a, int b, int c, int e, int f) {
        if (tape.size() + 20 > 300) {
            return NONE;
        }
        for (int v : new int[] {a, b, c, e, f}) {
            tape.add((byte) (v >>> 24));
            tape.add((byte) (v >>> 16));
            tape.add((byte) (v >>> 8));
            tape.add((byte) v);
        }
        return tape.size();
    }

    int text(int n) {
        illegal(n < 0 || n > tape.size());
        StringBuilder text = new StringBuilder();
        for (int i = 0; i < n; i++) {
            text.append((char) (tape.get(i) & 255));
        }
        tape.clear();
        kind = 0;
        place = NONE;
        Terms told = new Terms();
        int lines = read(text.toString(), told);
        if (kind != 0) {
            return -10 - kind;
        }
        terms = told;
        memo.clear();
        return lines;
    }

    private static final Pattern TOKEN = Pattern.compile("[ \n]*([a-z]+|[0-9]+|;|[^ \n]|$)");

    private static final Map<String, int[]> LINES = Map.of("whole", new int[] {}, "above", new int[] {},
            "step", new int[] {1, 60, 1, 99}, "cart", new int[] {1, 60, 0, 99}, "gather", new int[] {0, 99},
            "keep", new int[] {0, 99}, "months", new int[] {1, 6}, "rise", new int[] {0, 5, 0, 99},
            "late", new int[] {0, 999}, "rule", new int[] {});

    private int read(String text, Terms told) {
        Matcher token = TOKEN.matcher(text);
        List<String> line = new ArrayList<>();
        int lines = 0;
        int at = 0;
        while (true) {
            if (!token.find(at)) {
                throw new IllegalStateException("no token");
            }
            String t = token.group(1);
            at = token.end();
            int fault = faultOf(t, line, told);
            if (fault != 0) {
                kind = fault;
                place = token.start(1);
                return 0;
            }
            if (t.isEmpty()) {
                return lines;
            }
            line.add(t);
            if (t.equals(";")) {
                tell(line, told);
                line.clear();
                lines++;
            }
        }
    }

    /** The least FAULT of a token behind those of its line; 0 if there is none. */
    private static int faultOf(String t, List<String> line, Terms told) {
        boolean number = t.matches("[0-9]+");
        if (number && t.length() > 3 || !t.matches("[a-z]*|[0-9]+|;")) {
            return 1;
        }
        if (line.isEmpty()) {
            if (t.isEmpty()) {
                return 0;
            }
            if (!LINES.containsKey(t)) {
                return 2;
            }
            return t.equals("step") && told.steps.size() == 6 || t.equals("cart") && told.carts.size() == 4 ? 4 : 0;
        }
        int[] bounds = LINES.get(line.get(0));
        boolean rule = line.get(0).equals("rule");
        int numbers = rule ? 1 : bounds.length / 2;
        if (line.size() > numbers) {
            return t.equals(";") ? 0 : 2;
        }
        if (rule) {
            return List.of("parts", "alone", "alike").contains(t) ? 0 : 2;
        }
        if (!number) {
            return 2;
        }
        int v = Integer.parseInt(t);
        int which = 2 * (line.size() - 1);
        if (v < bounds[which] || v > bounds[which + 1]) {
            return 3;
        }
        return line.get(0).equals("step") && which == 0 && told.steps.containsKey(v) ? 4 : 0;
    }

    private static void tell(List<String> line, Terms told) {
        String word = line.get(0);
        int a = line.size() > 2 && !word.equals("rule") ? Integer.parseInt(line.get(1)) : 0;
        int b = line.size() > 3 ? Integer.parseInt(line.get(2)) : 0;
        switch (word) {
            case "whole": told.above = false; break;
            case "above": told.above = true; break;
            case "step": told.steps.put(a, b); break;
            case "cart": told.carts.add(new int[] {a, b}); break;
            case "gather": told.gather = a; break;
            case "keep": told.keep = a; break;
            case "months": told.months = a; break;
            case "rise": told.rises[a] = b; break;
            case "late": told.late = a; break;
            default: told.rule = line.get(1);
        }
    }

    int fault(int what) {
        return what == 0 ? kind : what == 1 ? place : NONE;
    }

    int price(int q) {
        illegal(q < 1 || q > 200);
        Integer p = priceOf(terms, q);
        return p == null ? NONE : p;
    }

    private static Integer each(Terms t, int n) {
        Map.Entry<Integer, Integer> step = t.steps.floorEntry(n);
        return step == null ? null : step.getValue();
    }

    private static Integer priceOf(Terms t, int q) {
        int sum = 0;
        for (int n = 1; n <= q; n++) {
            Integer e = each(t, t.above ? n : q);
            if (e == null) {
                return null;
            }
            sum += e;
        }
        return sum + cartsFor(t, q);
    }

    /** The least that carts cost that hold just so many or more: by all sums that they can hold. */
    private static int cartsFor(Terms t, int q) {
        if (t.carts.isEmpty()) {
            return 0;
        }
        int[] exact = new int[q + 61];
        Arrays.fill(exact, Integer.MAX_VALUE / 2);
        exact[0] = 0;
        for (int[] cart : t.carts) {
            for (int i = cart[0]; i < exact.length; i++) {
                exact[i] = Math.min(exact[i], exact[i - cart[0]] + cart[1]);
            }
        }
        int least = Integer.MAX_VALUE;
        for (int i = q; i < exact.length; i++) {
            least = Math.min(least, exact[i]);
        }
        return least;
    }

    int buys(int q, int month) {
        absent(month < 0 || month > 5);
        illegal(q < 0 || q > 200);
        Integer b = buysOf(terms, q, memo);
        return b == null ? NONE : b + q * terms.rises[month];
    }

    /** BUYS without rise, as a table from which each single BUY goes on to greater sums. */
    private static Integer buysOf(Terms t, int q, Map<Object, Object> memo) {
        Integer[] all = (Integer[]) memo.get("buys");
        if (all == null) {
            all = new Integer[201];
            all[0] = 0;
            for (int have = 0; have < 200; have++) {
                for (int one = 1; all[have] != null && have + one <= 200; one++) {
                    Integer p = priceOfKnown(t, one, memo);
                    if (p != null && (all[have + one] == null || all[have] + p < all[have + one])) {
                        all[have + one] = all[have] + p;
                    }
                }
            }
            memo.put("buys", all);
        }
        return all[q];
    }

    private static Integer priceOfKnown(Terms t, int q, Map<Object, Object> memo) {
        Integer[] all = (Integer[]) memo.get("prices");
        if (all == null) {
            all = new Integer[201];
            for (int i = 1; i <= 200; i++) {
                all[i] = priceOf(t, i);
            }
            memo.put("prices", all);
        }
        return all[q];
    }

    // ---- sets and groups

    /** A PLAN from some month on: its cost (gather aside), its sacks and its row. */
    private static final class Way {
        final int cost;
        final int sacks;
        final List<Integer> row;

        Way(int cost, int sacks, List<Integer> row) {
            this.cost = cost;
            this.sacks = sacks;
            this.row = row;
        }

        boolean isAhead(Way o) {
            if (cost != o.cost) {
                return cost < o.cost;
            }
            if (sacks != o.sacks) {
                return sacks < o.sacks;
            }
            for (int i = 0; i < row.size(); i++) {
                if (!row.get(i).equals(o.row.get(i))) {
                    return row.get(i) < o.row.get(i);
                }
            }
            return false;
        }
    }

    private Way planOf(int set) {
        Object key = "plan" + set;
        if (!memo.containsKey(key)) {
            memo.put(key, mayBuy(set) ? from(set, 0, 0, new HashMap<>()) : null);
        }
        return (Way) memo.get(key);
    }

    private boolean mayBuy(int set) {
        List<Integer> all = members(set);
        for (int a : all) {
            for (int b : all) {
                if (houses.get(a).barred[b]) {
                    return false;
                }
            }
        }
        return all.size() == 1 || holderOf(all) != NONE;
    }

    private Way from(int set, int month, int kept, Map<Integer, Way> known) {
        if (month == terms.months) {
            return new Way(0, 0, Collections.emptyList());
        }
        int key = month * 1000 + kept;
        if (known.containsKey(key)) {
            return known.get(key);
        }
        int want = 0;
        int room = 0;
        for (int h : members(set)) {
            want += houses.get(h).wants[month];
            room += houses.get(h).cellar;
        }
        Way best = null;
        for (int buy = 0; kept + buy - want <= room; buy++) {
            int left = kept + buy - want;
            Integer cost = left < 0 ? null : buysOf(terms, buy, memo);
            Way rest = cost == null ? null : from(set, month + 1, left, known);
            if (rest == null) {
                continue;
            }
            List<Integer> row = new ArrayList<>();
            row.add(buy);
            row.addAll(rest.row);
            Way way = new Way(cost + buy * terms.rises[month] + left * terms.keep + rest.cost, buy + rest.sacks, row);
            if (best == null || way.isAhead(best)) {
                best = way;
            }
        }
        known.put(key, best);
        return best;
    }

    private Integer costOf(int set) {
        Way plan = planOf(set);
        return plan == null ? null : plan.cost + terms.gather * (Integer.bitCount(set) - 1);
    }

    int cost(int set) {
        legal(set);
        Integer c = costOf(set);
        return c == null ? NONE : c;
    }

    int bought(int set, int month) {
        absent(month != NONE && (month < 0 || month >= terms.months));
        legal(set);
        Way plan = planOf(set);
        if (plan == null) {
            return NONE;
        }
        return month == NONE ? plan.sacks : plan.row.get(month);
    }

    /** TOTAL, and the row of numbers of groups; null if there is none. */
    private static final class Best {
        int total;
        int[] row;
    }

    private Best bestOf(int set) {
        Object key = "best" + set;
        if (!memo.containsKey(key)) {
            Best[] best = new Best[1];
            part(members(set), new int[Integer.bitCount(set)], 0, 0, best);
            memo.put(key, best[0]);
        }
        return (Best) memo.get(key);
    }

    /** All rows of numbers of groups, from the first one on. */
    private void part(List<Integer> all, int[] row, int at, int groups, Best[] best) {
        if (at == all.size()) {
            int sum = 0;
            for (int g = 0; g < groups; g++) {
                Integer c = costOf(groupIn(all, row, g));
                if (c == null) {
                    return;
                }
                sum += c;
            }
            if (best[0] == null || sum < best[0].total) {
                best[0] = new Best();
                best[0].total = sum;
                best[0].row = row.clone();
            }
            return;
        }
        for (int g = 0; g <= groups; g++) {
            row[at] = g;
            part(all, row, at + 1, Math.max(groups, g + 1), best);
        }
    }

    private static int groupIn(List<Integer> all, int[] row, int g) {
        int set = 0;
        for (int i = 0; i < all.size(); i++) {
            set |= row[i] == g ? 1 << all.get(i) : 0;
        }
        return set;
    }

    private List<Integer> groupsOf(int set) {
        Best best = bestOf(set);
        List<Integer> groups = new ArrayList<>();
        for (int g = 0; groupIn(members(set), best.row, g) != 0; g++) {
            groups.add(groupIn(members(set), best.row, g));
        }
        return groups;
    }

    int least(int set) {
        legal(set);
        Best best = bestOf(set);
        return best == null ? NONE : best.total;
    }

    int group(int set, int house) {
        legal(set);
        if (bestOf(set) == null) {
            return NONE;
        }
        if (house == NONE) {
            return groupsOf(set).size();
        }
        int at = members(set).indexOf(house);
        return at < 0 ? NONE : bestOf(set).row[at];
    }

    int come(int set, int house) {
        at(house);
        legal(set);
        illegal(members(set).contains(house));
        if (bestOf(set) == null) {
            return NONE;
        }
        Integer least = costOf(1 << house);
        int where = least == null ? NONE : house;
        List<Integer> groups = groupsOf(set);
        groups.sort((a, b) -> members(a).get(0) - members(b).get(0));
        for (int g : groups) {
            Integer with = costOf(g | 1 << house);
            if (with != null && (least == null || with - costOf(g) < least)) {
                least = with - costOf(g);
                where = members(g).get(0);
            }
        }
        return where;
    }

    int join(int one, int other, int toll) {
        legal(one);
        legal(other);
        illegal((one & other) != 0 || toll < 0 || toll > 100000);
        Best a = bestOf(one);
        Best b = bestOf(other);
        Best both = bestOf(one | other);
        return a == null || b == null || both == null ? -1000000 : a.total + b.total - both.total - toll;
    }

    // ---- partings

    long upper() {
        return upper.longValueExact();
    }

    long lower() {
        return lower.longValueExact();
    }

    private void fraction(BigInteger up, BigInteger down) {
        BigInteger g = up.gcd(down);
        if (down.signum() < 0) {
            g = g.negate();
        }
        upper = up.divide(g);
        lower = down.divide(g);
    }

    private void fraction(long up, long down) {
        fraction(BigInteger.valueOf(up), BigInteger.valueOf(down));
    }

    int pay(int house, int v) {
        House h = at(house);
        illegal(v < 0 || v > 100000);
        int was = h.pay;
        h.pay = v;
        return was;
    }

    int by(int v) {
        illegal(v < 1 || v > 1000);
        int was = d;
        d = v;
        return was;
    }

    private int total(int set) {
        Best best = bestOf(set);
        if (best == null) {
            throw new IllegalStateException();
        }
        return best.total;
    }

    private long paid(int set) {
        long sum = 0;
        for (int h : members(set)) {
            sum += houses.get(h).pay;
        }
        return sum;
    }

    int judge(int set) {
        legal(set);
        long total = total(set);
        if (paid(set) != total * d) {
            return -2;
        }
        for (int sub : subsets(set)) {
            Integer c = costOf(sub);
            if (c != null && paid(sub) > (long) c * d) {
                return sub;
            }
        }
        return NONE;
    }

    private static List<Integer> subsets(int set) {
        List<Integer> all = new ArrayList<>();
        for (int sub = 1; sub <= set; sub++) {
            if ((sub | set) == set) {
                all.add(sub);
            }
        }
        return all;
    }

    /** All corners of what can be paid without that a set leaves: rows of numbers, the last one the lower number. */
    @SuppressWarnings("unchecked")
    private List<long[]> corners(int set) {
        Object key = "corners" + set;
        if (!memo.containsKey(key)) {
            List<Integer> all = members(set);
            int n = all.size();
            List<long[]> bounds = new ArrayList<>();
            for (int i = 0; i < n; i++) {
                long[] b = new long[n + 1];
                b[i] = -1;
                bounds.add(b);
            }
            for (int sub : subsets(set)) {
                if (costOf(sub) != null) {
                    long[] b = new long[n + 1];
                    for (int i = 0; i < n; i++) {
                        b[i] = sub >> all.get(i) & 1;
                    }
                    b[n] = costOf(sub);
                    bounds.add(b);
                }
            }
            List<long[]> found = new ArrayList<>();
            choose(bounds, 0, new ArrayList<>(), n, found);
            memo.put(key, found);
        }
        return (List<long[]>) memo.get(key);
    }

    private static void choose(List<long[]> bounds, int from, List<long[]> rows, int n, List<long[]> found) {
        if (rows.size() == n) {
            long[] x = solve(rows, n);
            if (x != null && fits(bounds, x, n)) {
                found.add(x);
            }
            return;
        }
        for (int i = from; i < bounds.size(); i++) {
            rows.add(bounds.get(i));
            choose(bounds, i + 1, rows, n, found);
            rows.remove(rows.size() - 1);
        }
    }

    /** Gauss without fractions (of Bareiss and Jordan). */
    private static long[] solve(List<long[]> rows, int n) {
        long[][] a = new long[n][];
        for (int i = 0; i < n; i++) {
            a[i] = rows.get(i).clone();
        }
        long last = 1;
        for (int c = 0; c < n; c++) {
            int r = c;
            while (r < n && a[r][c] == 0) {
                r++;
            }
            if (r == n) {
                return null;
            }
            long[] swap = a[c];
            a[c] = a[r];
            a[r] = swap;
            for (int i = 0; i < n; i++) {
                if (i != c) {
                    long f = a[i][c];
                    for (int j = 0; j <= n; j++) {
                        a[i][j] = (a[i][j] * a[c][c] - f * a[c][j]) / last;
                    }
                }
            }
            last = a[c][c];
        }
        long[] x = new long[n + 1];
        for (int i = 0; i < n; i++) {
            x[i] = last < 0 ? -a[i][n] : a[i][n];
        }
        x[n] = Math.abs(last);
        return x;
    }

    private static boolean fits(List<long[]> bounds, long[] x, int n) {
        for (long[] b : bounds) {
            long sum = 0;
            for (int i = 0; i < n; i++) {
                sum += b[i] * x[i];
            }
            if (sum > b[n] * x[n]) {
                return false;
            }
        }
        return true;
    }

    private static long sum(long[] x) {
        long sum = 0;
        for (int i = 0; i + 1 < x.length; i++) {
            sum += x[i];
        }
        return sum;
    }

    private void few(int set) {
        legal(set);
        illegal(Integer.bitCount(set) < 2 || Integer.bitCount(set) > 5);
    }

    boolean can(int set) {
        few(set);
        long total = total(set);
        long[] most = null;
        for (long[] x : corners(set)) {
            if (most == null || sum(x) * most[most.length - 1] > sum(most) * x[x.length - 1]) {
                most = x;
            }
        }
        long down = most[most.length - 1];
        long missing = total * down - sum(most);
        fraction(missing, down);
        return missing == 0;
    }

    /** The corners of the partings that hold; there are none if none holds. */
    private List<long[]> holding(int set) {
        long total = total(set);
        List<long[]> all = new ArrayList<>();
        for (long[] x : corners(set)) {
            if (sum(x) == total * x[x.length - 1]) {
                all.add(x);
            }
        }
        if (all.isEmpty()) {
            throw new IllegalStateException();
        }
        return all;
    }

    private static int compare(long[] a, long[] b, int at) {
        return Long.compare(a[at] * b[b.length - 1], b[at] * a[a.length - 1]);
    }

    void share(int set, int house, boolean most) {
        few(set);
        illegal(!members(set).contains(house));
        int at = members(set).indexOf(house);
        long[] best = null;
        for (long[] x : holding(set)) {
            if (best == null || (most ? compare(x, best, at) > 0 : compare(x, best, at) < 0)) {
                best = x;
            }
        }
        fraction(best[at], best[best.length - 1]);
    }

    void row(int set, int house) {
        few(set);
        illegal(!members(set).contains(house));
        int at = members(set).indexOf(house);
        List<long[]> all = new ArrayList<>(holding(set));
        all.sort((a, b) -> {
            for (int i = 0; i + 1 < a.length; i++) {
                if (compare(a, b, i) != 0) {
                    return compare(a, b, i);
                }
            }
            return 0;
        });
        fraction(all.get(0)[at], all.get(0)[all.get(0).length - 1]);
    }

    boolean proof(int tray, int set, int v) {
        absent(tray < 0 || tray > 3);
        few(set);
        illegal(v < 1 || v > 1000);
        long total = total(set);
        long[] t = trays[tray];
        if (t == null || t.length % 2 == 1) {
            return false;
        }
        BigInteger spent = BigInteger.ZERO;
        Map<Integer, Long> covered = new HashMap<>();
        for (int i = 0; i < t.length; i += 2) {
            long number = t[i + 1];
            if (t[i] < 1 || t[i] > 127 || !subsets(set).contains((int) t[i]) || costOf((int) t[i]) == null
                    || number < 0 || number > 100000) {
                return false;
            }
            spent = spent.add(BigInteger.valueOf(costOf((int) t[i])).multiply(BigInteger.valueOf(number)));
            for (int h : members((int) t[i])) {
                covered.merge(h, number, Long::sum);
            }
        }
        for (int h : members(set)) {
            if (covered.getOrDefault(h, 0L) < v) {
                return false;
            }
        }
        return spent.compareTo(BigInteger.valueOf(total * v)) < 0;
    }

    private Map<Integer, Long> parts(int set) {
        total(set);
        Map<Integer, Long> parts = new TreeMap<>();
        long sum = 0;
        for (int h : members(set)) {
            long part = 1;
            if (terms.rule.equals("parts")) {
                part = 0;
                for (int m = 0; m < terms.months; m++) {
                    part += houses.get(h).wants[m];
                }
            } else if (terms.rule.equals("alone")) {
                if (costOf(1 << h) == null) {
                    throw new IllegalStateException();
                }
                part = costOf(1 << h);
            }
            sum += part;
            parts.put(h, part);
        }
        if (sum == 0) {
            parts.replaceAll((h, part) -> 1L);
        }
        return parts;
    }

    void ruled(int set, int house) {
        legal(set);
        illegal(!members(set).contains(house));
        Map<Integer, Long> parts = parts(set);
        long all = parts.values().stream().mapToLong(Long::longValue).sum();
        fraction(total(set) * parts.get(house), all);
    }

    int keeps(int set) {
        legal(set);
        Map<Integer, Long> parts = parts(set);
        long all = parts.values().stream().mapToLong(Long::longValue).sum();
        for (int sub : subsets(set)) {
            long paid = 0;
            for (int h : members(sub)) {
                paid += parts.get(h) * total(set);
            }
            if (costOf(sub) != null && paid > costOf(sub) * all) {
                return sub;
            }
        }
        return NONE;
    }

    // ---- doubt, sellers

    int doubt(int house, int sacks, int chance) {
        House h = at(house);
        illegal(sacks < 0 || sacks > 8 || chance < 1 || chance > 9);
        if (h.doubts.size() == 4) {
            return NONE;
        }
        h.doubts.add(new int[] {sacks, chance});
        return h.doubts.size();
    }

    /** RISK by all that may come: its upper number over the product of all chances; null if q can't be bought. */
    private BigInteger[] riskOf(int set, int q) {
        Integer cost = buysOf(terms, q, memo);
        if (cost == null) {
            return null;
        }
        Map<Integer, BigInteger> odds = new HashMap<>();
        odds.put(0, BigInteger.ONE);
        for (int h : members(set)) {
            List<int[]> may = houses.get(h).doubts;
            if (may.isEmpty()) {
                may = List.of(new int[] {houses.get(h).wants[0], 1});
            }
            Map<Integer, BigInteger> next = new HashMap<>();
            for (int[] m : may) {
                odds.forEach((sacks, chance) -> next.merge(sacks + m[0], chance.multiply(BigInteger.valueOf(m[1])),
                        BigInteger::add));
            }
            odds = next;
        }
        BigInteger up = BigInteger.ZERO;
        BigInteger down = BigInteger.ZERO;
        for (Map.Entry<Integer, BigInteger> e : odds.entrySet()) {
            int w = e.getKey();
            int coins = cost + q * terms.rises[0] + (w > q ? (w - q) * terms.late : (q - w) * terms.keep);
            up = up.add(e.getValue().multiply(BigInteger.valueOf(coins)));
            down = down.add(e.getValue());
        }
        return new BigInteger[] {up, down};
    }

    boolean risk(int set, int q) {
        legal(set);
        illegal(q < 0 || q > 8 * Integer.bitCount(set));
        BigInteger[] risk = riskOf(set, q);
        if (risk == null) {
            return false;
        }
        fraction(risk[0], risk[1]);
        return true;
    }

    int before(int set) {
        legal(set);
        int best = NONE;
        BigInteger[] least = null;
        for (int q = 0; q <= 8 * Integer.bitCount(set); q++) {
            BigInteger[] risk = riskOf(set, q);
            if (risk != null && (least == null
                    || risk[0].multiply(least[1]).compareTo(least[0].multiply(risk[1])) < 0)) {
                least = risk;
                best = q;
            }
        }
        fraction(least[0], least[1]);
        return best;
    }

    int seller(int set, int p, int k, int what) {
        legal(set);
        illegal(Integer.bitCount(set) > 4 || p < 2 || p > 20 || k < 0 || k > 20 || what < 0 || what > 3);
        Plain other = new Plain();
        other.houses = houses;
        if (what == 3) {
            Integer gain = gain(other, set, k, p, 0, 0);
            return gain == null ? -1000000 : gain;
        }
        int n = NONE;
        int r = NONE;
        Integer most = null;
        for (int i = 2; i <= 12; i++) {
            for (int j = 1; j <= p - 1; j++) {
                Integer gain = gain(other, set, k, p, i, j);
                if (gain != null && (most == null || gain > most)) {
                    n = i;
                    r = j;
                    most = gain;
                }
            }
        }
        return what == 0 ? n : what == 1 ? r : most == null ? -1000000 : most;
    }

    private Integer gain(Plain other, int set, int k, int p, int n, int r) {
        other.terms = terms.copy();
        other.terms.steps.clear();
        other.terms.steps.put(1, p);
        if (n > 0) {
            other.terms.steps.put(n, r);
        }
        other.memo.clear();
        Best best = other.bestOf(set);
        if (best == null) {
            return null;
        }
        int gain = best.total;
        for (int g : other.groupsOf(set)) {
            gain -= k * other.planOf(g).sacks;
        }
        return gain;
    }

    // ---- trays, images

    void tray(int tray, int sort, int many) {
        absent(tray < 0 || tray > 3);
        illegal(sort < 0 || sort > 3 || many < 0 || many > 40);
        trays[tray] = new long[many];
        sorts[tray] = sort;
    }

    private void laid(int tray) {
        if (trays[tray] == null) {
            throw new IllegalStateException();
        }
    }

    long write(int tray, int where, long v) {
        absent(tray < 0 || tray > 3);
        laid(tray);
        if (where < 0 || where >= trays[tray].length) {
            throw new IndexOutOfBoundsException();
        }
        int shift = 64 - (8 << sorts[tray]);
        trays[tray][where] = v << shift >> shift;
        return trays[tray][where];
    }

    int take(int tray, int house) {
        absent(tray < 0 || tray > 3);
        House h = at(house);
        laid(tray);
        illegal(trays[tray].length > 6);
        for (long v : trays[tray]) {
            illegal(v < 0 || v > 8);
        }
        for (int m = 0; m < trays[tray].length; m++) {
            h.wants[m] = (int) trays[tray][m];
        }
        memo.clear();
        return trays[tray].length;
    }

    void image(int i) {
        absent(i < 0 || i > 2);
        shots[i] = new Shot();
        for (House h : houses) {
            shots[i].houses.add(h.copy());
        }
        shots[i].terms = terms.copy();
        shots[i].d = d;
    }

    void restore(int i) {
        absent(i < 0 || i > 2);
        if (shots[i] == null) {
            throw new IllegalStateException();
        }
        houses = new ArrayList<>();
        for (House h : shots[i].houses) {
            houses.add(h.copy());
        }
        terms = shots[i].terms.copy();
        d = shots[i].d;
        memo.clear();
    }

    int count(int what) {
        int doubts = 0;
        for (House h : houses) {
            doubts += h.doubts.size();
        }
        int[] all = {houses.size(), terms.steps.size(), terms.carts.size(), terms.months, tape.size(), doubts,
            List.of("parts", "alone", "alike").indexOf(terms.rule), terms.late, terms.gather, terms.keep};
        return what < 0 || what > 9 ? NONE : all[what];
    }

    // ---- what all need

    private House at(int house) {
        absent(house < 0 || house >= houses.size());
        return houses.get(house);
    }

    private void legal(int set) {
        illegal(set <= 0 || set >= 1 << houses.size());
    }

    private static void illegal(boolean is) {
        if (is) {
            throw new IllegalArgumentException();
        }
    }

    private static void absent(boolean is) {
        if (is) {
            throw new NoSuchElementException();
        }
    }

    private static List<Integer> members(int set) {
        List<Integer> all = new ArrayList<>();
        for (int i = 0; i < 7; i++) {
            if ((set >> i & 1) == 1) {
                all.add(i);
            }
        }
        return all;
    }
}
