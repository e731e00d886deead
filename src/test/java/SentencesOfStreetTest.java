/**
 * What promises 1 to 8 and the terms of HOUSEHOLDS, BARRED, TRUST, HOLDER and CHAIN say without naming a boundary, where
 * it could be read otherwise: each with an answer that another reading wouldn't give.
 */
public final class SentencesOfStreetTest {
    private SentencesOfStreetTest() {
    }

    public static void main(String[] args) {
        objectsByThemselves();
        houseIsOneMore();
        wantsAndCellarsAreOfOne();
        barredInEachCall();
        barredWhereNobodyBuys();
        barredInGreatSets();
        barredStay();
        trustGoesOneWay();
        holderOfEachSet();
        holderWhateverIsBarred();
        holderIsNoChain();
        holderIsWhoIsTrusted();
        chainIsNoGroup();
        chainOfEachTwo();
        Check.end();
    }

    private static void due(String what, Object want, Check.Call call) {
        Check.due(what, want, call);
    }

    private static CoalStreet some(int n) {
        CoalStreet x = new CoalStreet();
        for (int i = 0; i < n; i++) {
            x.house(0);
        }
        return x;
    }

    private static CoalStreet told(String text, int... wants) {
        CoalStreet x = Streets.trusting(wants);
        Streets.tell(x, text);
        return x;
    }

    private static boolean has(int set, int house) {
        return (set >> house & 1) == 1;
    }

    private static void fraction(String what, CoalStreet x, long upper, long lower) {
        Check.same(what, upper + "/" + lower, x.upper() + "/" + x.lower());
    }

    // ---- promise 1: "Nothing is told": nor by what another object was told.

    private static void objectsByThemselves() {
        CoalStreet one = new CoalStreet();
        CoalStreet other = Twins.rich();
        Check.same("a new one beside a rich one", Twins.all(new CoalStreet()), Twins.all(one));
        Check.same("a rich one beside others", Twins.all(Twins.rich()), Twins.all(other));
        CoalStreet x = told("step 1 10;", 3);
        CoalStreet y = told("step 1 7;", 2);
        for (int i = 0; i < 2; i++) {
            due("cost of the one", 30, () -> x.cost(1));
            due("cost of the other", 14, () -> y.cost(1));
            due("a seller for the one", 60, () -> x.seller(1, 20, 0, 3));
            due("a seller for the other", 40, () -> y.seller(1, 20, 0, 3));
        }
        x.image(0);
        due("an image of the one", "throws IllegalStateException", () -> {
            y.restore(0);
            return 0;
        });
    }

    // ---- promise 2: "A HOUSEHOLD more": those that there are stay as they are.

    private static void houseIsOneMore() {
        CoalStreet x = Twins.rich();
        String before = answers(x, 31);
        due("one more", 5, () -> x.house(8));
        Check.same("the others with one more", before, answers(x, 31));
        due("two more", 6, () -> x.house(0));
        Check.same("the others with two more", before, answers(x, 31));
        due("the new one wants nothing", 0, () -> x.cost(32));
        due("nobody holds for it and another one", -1, () -> x.holder(33));
        due("nobody leads to it", -1, () -> x.chain(0, 5));
    }

    private static String answers(CoalStreet x, int last) {
        StringBuilder all = new StringBuilder();
        for (int set = 1; set <= last; set++) {
            all.append(x.holder(set)).append(' ').append(x.cost(set)).append(' ').append(x.least(set)).append(' ');
            all.append(x.bought(set, -1)).append(' ').append(x.group(set, -1)).append("; ");
        }
        for (int i = 0; i < 25; i++) {
            all.append(x.chain(i / 5, i % 5)).append(' ');
        }
        return all.toString();
    }

    // ---- promises 3 and 4: "WANT of a HOUSEHOLD in a MONTH", "CELLAR of a HOUSEHOLD"

    private static void wantsAndCellarsAreOfOne() {
        CoalStreet x = told("step 1 10;months 2;rise 1 5;", 1, 1, 1);
        x.want(1, 1, 2);
        // 1 in month 0, 2 in month 1 for 15.
        due("who has a want more", 40, () -> x.cost(2));
        due("another one", 10, () -> x.cost(1));
        due("both", 50, () -> x.cost(3));
        x.cellar(0, 8);
        due("with another one's cellar, alone", 40, () -> x.cost(2));
        due("with another one's cellar, together", 40, () -> x.cost(3));
        due("together with a third one", 50, () -> x.cost(7));
        due("without who has the cellar", 50, () -> x.cost(6));
    }

    // ---- "Two may be BARRED (they never buy in one group)": whichever call asks for groups.

    /** Alone 10, two 12, three 18, four 20. */
    private static CoalStreet four() {
        return told("step 1 10;step 2 6;step 4 5;rule alike;", 1, 1, 1, 1);
    }

    private static void barredInEachCall() {
        CoalStreet x = four();
        x.pay(0, 6);
        x.pay(1, 6);
        x.pay(2, 6);
        x.pay(3, 6);
        inOneGroup(x);
        x.bar(0, 1);
        inTwoGroups(x);
    }

    private static void inOneGroup(CoalStreet x) {
        due("cost", 20, () -> x.cost(15));
        due("bought", 4, () -> x.bought(15, 0));
        due("least", 20, () -> x.least(15));
        due("groups", 1, () -> x.group(15, -1));
        due("a newcomer adds 2", 0, () -> x.come(7, 3));
        due("two and two", 4, () -> x.join(3, 12, 0));
        due("24 are too much", -2, () -> x.judge(15));
        due("can", true, () -> x.can(15));
        x.share(15, 0, true);
        fraction("the greatest share", x, 8, 1);
        x.share(15, 0, false);
        fraction("the least share", x, 2, 1);
        x.row(15, 0);
        fraction("the first row", x, 2, 1);
        x.ruled(15, 0);
        fraction("alike", x, 5, 1);
        due("a seller's four by carts", 40, () -> x.seller(15, 10, 0, 3));
    }

    /** Now the others are 0 and 2, 1 and 3 (ahead of 0 and 3, 1 and 2). */
    private static void inTwoGroups(CoalStreet x) {
        for (int set = 1; set <= 15; set++) {
            int some = set;
            if ((set & 3) == 3) {
                due("cost of " + set + ", of whom two are BARRED", -1, () -> x.cost(some));
                due("bought by " + set + ", of whom two are BARRED", -1, () -> x.bought(some, 0));
            }
        }
        due("least", 24, () -> x.least(15));
        due("groups", 2, () -> x.group(15, -1));
        due("group of 1", 1, () -> x.group(15, 1));
        due("group of 2", 0, () -> x.group(15, 2));
        due("group of 3", 1, () -> x.group(15, 3));
        due("a newcomer adds 6 to 0 and 2, and 2 to 1", 1, () -> x.come(7, 3));
        due("a newcomer to whom it is BARRED from", 1, () -> x.come(1, 1));
        due("two who are BARRED, and two", 20 + 12 - 24, () -> x.join(3, 12, 0));
        due("24 are right", -1, () -> x.judge(15));
        due("can", true, () -> x.can(15));
        fraction("nothing is missing", x, 0, 1);
        // Both ways to part cost 24: so 0 and 1 pay the same, and so do 2 and 3.
        x.share(15, 0, true);
        fraction("the greatest share", x, 10, 1);
        x.share(15, 2, false);
        fraction("the least share of 2", x, 2, 1);
        x.share(15, 0, false);
        fraction("the least share", x, 6, 1);
        x.row(15, 0);
        fraction("the first row", x, 6, 1);
        x.ruled(15, 0);
        fraction("alike", x, 6, 1);
        due("none leaves", -1, () -> x.keeps(15));
        Streets.tell(x, "cart 4 10;");
        due("a seller's four need two carts", 60, () -> x.seller(15, 10, 0, 3));
    }

    /** To be BARRED is to buy apart, and nothing else. */
    private static void barredWhereNobodyBuys() {
        CoalStreet x = told("step 1 2;late 9;", 1, 2);
        x.risk(3, 1);
        fraction("RISK of two", x, 20, 1);
        x.bar(0, 1);
        x.risk(3, 1);
        fraction("RISK of two that are BARRED", x, 20, 1);
        due("BEFORE of two that are BARRED", 3, () -> x.before(3));
        due("TRUST of two that are BARRED", true, () -> x.trust(0, 1, true));
        due("HOLDER of two that are BARRED", 0, () -> x.holder(3));
        due("CHAIN of two that are BARRED", 1, () -> x.chain(0, 1));
    }

    private static void barredInGreatSets() {
        CoalStreet x = told("step 1 10;", 1, 1, 1, 1, 1, 1, 1);
        x.bar(6, 5);
        x.bar(0, 3);
        for (int set = 1; set <= 127; set++) {
            int some = set;
            boolean apart = (set & 96) == 96 || (set & 9) == 9;
            due("cost of " + set, apart ? -1 : 10 * Integer.bitCount(set), () -> x.cost(some));
            due("least of " + set, 10 * Integer.bitCount(set), () -> x.least(some));
            due("groups of " + set, apart ? 2 : 1, () -> x.group(some, -1));
        }
    }

    /** Nothing but an IMAGE of before makes them not BARRED. */
    private static void barredStay() {
        CoalStreet x = some(2);
        x.image(0);
        x.bar(0, 1);
        x.trust(0, 1, true);
        x.trust(0, 1, false);
        x.trust(1, 0, true);
        Streets.tell(x, "step 1 10;");
        x.house(3);
        due("they are still", false, () -> x.bar(1, 0));
        due("they buy apart", -1, () -> x.cost(3));
        x.restore(0);
        due("before they weren't", true, () -> x.bar(1, 0));
    }

    // ---- "One may TRUST another one with its coin."

    private static void trustGoesOneWay() {
        for (int i = 0; i < 7; i++) {
            for (int j = 0; j < 7; j++) {
                if (i == j) {
                    continue;
                }
                int one = i;
                int other = j;
                CoalStreet x = some(7);
                x.trust(one, other, true);
                due("who is trusted holds", other, () -> x.holder(1 << one | 1 << other));
                due("there is a way to it", 1, () -> x.chain(one, other));
                due("there is none back", -1, () -> x.chain(other, one));
                due("the other doesn't trust", false, () -> x.trust(other, one, true));
                due("now each of them could hold", Math.min(one, other), () -> x.holder(1 << one | 1 << other));
                due("one does still", true, () -> x.trust(one, other, false));
                due("now the first one does", one, () -> x.holder(1 << one | 1 << other));
            }
        }
    }

    // ---- "HOLDER of a set: the least of it whom all others of it TRUST."

    private static boolean pattern(int one, int other, int seed) {
        return (one * 5 + other * 3 + one * other * seed + seed) % 7 > 1;
    }

    /** Each set of seven, by the words: the least one whom each other one trusts. */
    private static void holderOfEachSet() {
        for (int seed = 0; seed < 7; seed++) {
            CoalStreet x = told("step 1 10;", 1, 1, 1, 1, 1, 1, 1);
            for (int i = 0; i < 49; i++) {
                if (i / 7 != i % 7) {
                    x.trust(i / 7, i % 7, pattern(i / 7, i % 7, seed));
                }
            }
            for (int set = 1; set <= 127; set++) {
                int some = set;
                int due = holder(set, seed);
                due("holder of " + set, due, () -> x.holder(some));
                due("cost of " + set, due == -1 ? -1 : 10 * Integer.bitCount(set), () -> x.cost(some));
            }
        }
    }

    private static int holder(int set, int seed) {
        for (int h = 0; h < 7; h++) {
            boolean all = has(set, h);
            for (int other = 0; other < 7; other++) {
                all &= other == h || !has(set, other) || pattern(other, h, seed);
            }
            if (all) {
                return h;
            }
        }
        return -1;
    }

    private static void holderWhateverIsBarred() {
        CoalStreet x = Streets.trusting(1, 1, 1);
        x.bar(0, 1);
        due("the least, who is BARRED from another one", 0, () -> x.holder(7));
        due("of two who are BARRED", 0, () -> x.holder(3));
    }

    private static void holderIsNoChain() {
        CoalStreet x = some(3);
        x.trust(0, 1, true);
        x.trust(1, 2, true);
        due("a chain of two", 2, () -> x.chain(0, 2));
        due("0 doesn't trust 2", -1, () -> x.holder(5));
        due("not all trust 2", -1, () -> x.holder(7));
        x.trust(0, 2, true);
        due("all trust 2", 2, () -> x.holder(7));
    }

    private static void holderIsWhoIsTrusted() {
        CoalStreet x = some(3);
        x.trust(0, 1, true);
        x.trust(0, 2, true);
        due("0 trusts all: that makes no holder", -1, () -> x.holder(7));
        x.trust(1, 2, true);
        due("2 is trusted by all and trusts nobody", 2, () -> x.holder(7));
        due("holder doesn't trust itself, and needn't", 1, () -> x.holder(3));
    }

    // ---- "CHAIN from one to another one: the fewest steps from one to somebody whom that one TRUSTS, and so on."

    private static void chainIsNoGroup() {
        CoalStreet x = some(4);
        x.trust(0, 1, true);
        x.trust(1, 2, true);
        x.trust(2, 3, true);
        due("three steps", 3, () -> x.chain(0, 3));
        x.bar(0, 1);
        x.bar(2, 1);
        x.bar(0, 3);
        due("steps to whom one is BARRED from", 3, () -> x.chain(0, 3));
        Streets.tell(x, "step 1 10;");
        x.want(1, 0, 3);
        due("whatever they want", 3, () -> x.chain(0, 3));
        x.trust(1, 2, false);
        due("a step less is none", -1, () -> x.chain(0, 3));
        due("those behind it", 1, () -> x.chain(2, 3));
    }

    private static void chainOfEachTwo() {
        for (int seed = 0; seed < 7; seed++) {
            CoalStreet x = some(7);
            int[][] far = new int[7][7];
            for (int i = 0; i < 49; i++) {
                int a = i / 7;
                int b = i % 7;
                // Fewer than in holderOfEachSet(), so that ways are long.
                boolean is = a != b && (a * 3 + b * b + seed * (a + 2 * b)) % 7 == 1;
                if (is) {
                    x.trust(a, b, true);
                }
                far[a][b] = a == b ? 0 : is ? 1 : 99;
            }
            for (int i = 0; i < 343; i++) {
                int by = i / 49;
                int a = i / 7 % 7;
                int b = i % 7;
                far[a][b] = Math.min(far[a][b], far[a][by] + far[by][b]);
            }
            for (int i = 0; i < 49; i++) {
                int a = i / 7;
                int b = i % 7;
                due("chain from " + a + " to " + b, far[a][b] >= 99 ? -1 : far[a][b], () -> x.chain(a, b));
            }
        }
    }

}
