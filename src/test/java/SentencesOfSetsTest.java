/**
 * What promises 14 to 19 and the terms of PLAN, COST, TOTAL, GROUPS and NEWCOMER say without naming a boundary, where it
 * could be read otherwise: each with an answer that another reading wouldn't give.
 */
public final class SentencesOfSetsTest {
    private SentencesOfSetsTest() {
    }

    public static void main(String[] args) {
        eachMonthBuysByItself();
        wantedInItsMonth();
        wantsOfTheSetAlone();
        keptThroughEachMonth();
        nothingIsThrownAway();
        allBuysInAMonth();
        keepForEachSackLeft();
        gatherForAllButOne();
        leastOfAllPlans();
        costIsOfOneGroup();
        boughtIsOfOneGroup();
        boughtAtLeastCost();
        boughtFewestBeforeFirst();
        boughtFirstOfFewest();
        boughtThoughNothingIsWanted();
        totalOfParts();
        totalOfGroupsWithCosts();
        totalIsNotAboveCost();
        groupsAreOfLeastTotal();
        groupsFirstByTheWholeRow();
        groupsOfEachSetByItself();
        newcomerByWhatItAdds();
        newcomerWithItsCellar();
        newcomerWithAHolder();
        newcomerAsWithout();
        newcomerChangesNothing();
        joinByTotals();
        joinBothWays();
        answersAreOfNow();
        Check.end();
    }

    private static void due(String what, Object want, Check.Call call) {
        Check.due(what, want, call);
    }

    private static CoalStreet told(String text, int... wants) {
        CoalStreet x = Streets.trusting(wants);
        Streets.tell(x, text);
        return x;
    }

    /** One household with a cellar and wants by months. */
    private static CoalStreet one(int cellar, String text, int... wants) {
        CoalStreet x = new CoalStreet();
        x.house(cellar);
        wants(x, 0, wants);
        Streets.tell(x, text);
        return x;
    }

    private static void wants(CoalStreet x, int house, int... sacks) {
        for (int m = 0; m < sacks.length; m++) {
            x.want(house, m, sacks[m]);
        }
    }

    /** What THE PLAN of a set costs, and its row. */
    private static void plan(String what, CoalStreet x, int set, int cost, int... row) {
        due(what + ": cost", cost, () -> x.cost(set));
        int all = 0;
        for (int m = 0; m < row.length; m++) {
            int month = m;
            due(what + ": month " + m, row[m], () -> x.bought(set, month));
            all += row[m];
        }
        int sacks = all;
        due(what + ": in all", sacks, () -> x.bought(set, CoalStreet.NONE));
    }

    private static void groups(String what, CoalStreet x, int set, int... row) {
        int many = 0;
        for (int i = 0; i < row.length; i++) {
            int h = i;
            due(what + ": group of " + i, row[i], () -> x.group(set, h));
            many = Math.max(many, row[i] + 1);
        }
        int all = many;
        due(what + ": how many", all, () -> x.group(set, CoalStreet.NONE));
    }

    // ---- "A PLAN of a set: for each MONTH that counts how many sacks are bought (BUYS): with what was kept (0 at first)
    // they are the WANTS of all of the set then, or more; what is left isn't above all their CELLARS, and is kept."

    /** What two months buy isn't one BUY. */
    private static void eachMonthBuysByItself() {
        plan("two and two", one(0, "step 1 10;step 4 5;months 2;", 2, 2), 1, 40, 2, 2);
        plan("four at once", one(2, "step 1 10;step 4 5;months 2;", 2, 2), 1, 20, 4, 0);
        plan("a cart in each month", one(0, "step 1 1;cart 4 9;months 3;", 1, 1, 1), 1, 30, 1, 1, 1);
        plan("one cart", one(2, "step 1 1;cart 4 9;months 3;", 1, 1, 1), 1, 12, 3, 0, 0);
    }

    /** Nobody waits for a later month that costs less. */
    private static void wantedInItsMonth() {
        plan("month 0 is dear", one(8, "step 1 10;months 2;rise 0 30;", 2, 2), 1, 100, 2, 2);
        plan("month 1 is dear", one(8, "step 1 10;months 2;rise 1 30;", 2, 2), 1, 40, 4, 0);
        plan("just month 0 counts", one(8, "step 1 10;rise 1 30;", 2, 2), 1, 20, 2);
        due("a step that is reached by both months alone", -1, () -> one(0, "step 4 5;months 2;", 2, 2).cost(1));
    }

    private static void wantsOfTheSetAlone() {
        CoalStreet x = told("step 1 10;step 3 7;months 2;", 1, 2, 4);
        wants(x, 2, 4, 1);
        plan("of 0", x, 1, 10, 1, 0);
        plan("of 1", x, 2, 20, 2, 0);
        plan("of 0 and 1", x, 3, 21, 3, 0);
        plan("of 2", x, 4, 28 + 10, 4, 1);
        plan("of 0 and 2", x, 5, 35 + 10, 5, 1);
        plan("of all", x, 7, 49 + 10, 7, 1);
    }

    /** There is room for what is kept in each month, not just in the first one or in the last one. */
    private static void keptThroughEachMonth() {
        String text = "step 1 10;months 3;rise 1 50;rise 2 50;";
        plan("room for two", one(2, text, 0, 2, 2), 1, 20 + 120, 2, 0, 2);
        plan("room for four", one(4, text, 0, 2, 2), 1, 40, 4, 0, 0);
        plan("room for three", one(3, text, 0, 2, 2), 1, 30 + 60, 3, 0, 1);
        CoalStreet x = told(text, 0, 0);
        wants(x, 0, 0, 2, 2);
        x.cellar(1, 3);
        plan("in another one's cellar", x, 3, 30 + 60, 3, 0, 1);
        plan("without that one", x, 1, 240, 0, 2, 2);
        x.cellar(0, 1);
        plan("in both cellars", x, 3, 40, 4, 0, 0);
    }

    /** What is left is kept, and paid for, till it is wanted. */
    private static void nothingIsThrownAway() {
        plan("5 at least: 4 are kept twice", one(8, "step 5 1;months 3;keep 3;", 1, 0, 4), 1, 5 + 24, 5, 0, 0);
        plan("5 at least: 4 are kept three times", one(8, "step 5 1;months 3;keep 3;", 1, 0, 0), 1, 5 + 36, 5, 0, 0);
        due("they have no room", -1, () -> one(3, "step 5 1;months 3;keep 3;", 1, 0, 4).cost(1));
        // More than is wanted, as 5 cost less than 4, but then there is no room.
        plan("room for one", one(1, "step 1 10;step 5 7;", 4), 1, 35, 5);
        plan("no room", one(0, "step 1 10;step 5 7;", 4), 1, 40, 4);
        // What is left of month 0 leaves no room for what would be left of month 1.
        plan("room that is taken", one(4, "step 5 1;months 2;", 1, 3), 1, 5, 5, 0);
        due("and more is wanted", -1, () -> one(4, "step 9 1;months 2;", 5, 8).cost(1));
    }

    /** "(BUYS)": in one or several, with that month's rise. */
    private static void allBuysInAMonth() {
        plan("two of 3", one(0, "step 3 2;step 4 9;", 6), 1, 12, 6);
        plan("two of 3 with rise", one(0, "step 3 2;step 4 9;rise 0 5;", 6), 1, 42, 6);
        plan("above: one by one", one(0, "above;step 1 2;step 2 9;", 6), 1, 12, 6);
        plan("carts for two of 3", one(0, "step 3 2;step 4 9;cart 3 1;", 6), 1, 14, 6);
        plan("the rise of each month", one(0, "step 1 2;rise 0 1;rise 1 3;rise 2 5;months 3;", 1, 2, 3), 1, 3 + 10 + 21, 1,
                2, 3);
    }

    // ---- "Its cost: all BUYS, keep for each sack left in each MONTH (the last one, too), gather for each HOUSEHOLD but
    // one."

    private static void keepForEachSackLeft() {
        plan("3, 2 and 1 are left", one(8, "step 1 10;months 4;keep 2;rise 1 90;rise 2 90;rise 3 90;", 1, 1, 1, 1), 1,
                40 + 12, 4, 0, 0, 0);
        plan("bought and used in a month", one(8, "step 1 10;months 3;keep 2;", 3, 2, 1), 1, 60, 3, 2, 1);
        plan("1 is left in the end", one(8, "step 5 10;keep 2;", 4), 1, 52, 5);
        plan("2 are left in two months, 1 in one more", one(8, "step 5 1;months 3;keep 4;", 3, 0, 1), 1, 5 + 8 + 8 + 4, 5,
                0, 0);
    }

    private static void gatherForAllButOne() {
        CoalStreet x = told("step 1 10;gather 7;months 3;", 2, 0, 0, 1);
        due("of one", 20, () -> x.cost(1));
        due("with one that wants nothing", 27, () -> x.cost(3));
        due("two that want nothing", 7, () -> x.cost(6));
        due("one that wants nothing", 0, () -> x.cost(2));
        due("two with wants", 37, () -> x.cost(9));
        due("all", 30 + 21, () -> x.cost(15));
    }

    // ---- "COST of a set: the least cost of a PLAN"

    private static void leastOfAllPlans() {
        String steps = "step 1 10;step 6 5;months 3;";
        plan("all at once", one(4, steps + "keep 3;", 2, 2, 2), 1, 30 + 12 + 6, 6, 0, 0);
        plan("each month", one(4, steps + "keep 6;", 2, 2, 2), 1, 60, 2, 2, 2);
        // 2, then 6 at once of which 4, 2 are left.
        plan("not by the first month that may", one(4, steps + "keep 1;", 2, 2, 4), 1, 20 + 30 + 4, 2, 6, 0);
        // 6 and 2, or 2 and 6 with less to keep.
        plan("less to keep", one(8, steps + "keep 1;rise 0 1;", 2, 2, 4), 1, 22 + 30 + 4, 2, 6, 0);
        plan("to pay more now to pay less then", one(3, "step 1 4;months 3;rise 1 9;rise 2 3;", 1, 3, 2), 1, 16 + 14, 4, 0,
                2);
    }

    private static void costIsOfOneGroup() {
        CoalStreet x = told("step 1 10;step 3 9;gather 20;", 1, 2, 3);
        due("cost of 0 and 1", 27 + 20, () -> x.cost(3));
        due("total of 0 and 1", 30, () -> x.least(3));
        due("cost of all", 54 + 40, () -> x.cost(7));
        due("total of all", 57, () -> x.least(7));
    }

    private static void boughtIsOfOneGroup() {
        CoalStreet x = told("step 1 10;gather 50;months 2;rise 1 9;", 1, 0);
        x.cellar(0, 4);
        wants(x, 1, 0, 3);
        due("groups are apart", 2, () -> x.group(3, -1));
        plan("in one they buy ahead", x, 3, 40 + 50, 4, 0);
        plan("apart they don't", x, 2, 57, 0, 3);
        plan("apart", x, 1, 10, 1, 0);
        CoalStreet y = told("step 1 10;step 5 7;gather 20;", 2, 2);
        y.cellar(0, 1);
        due("groups are apart", 2, () -> y.group(3, -1));
        due("their total", 40, () -> y.least(3));
        plan("in one they buy more", y, 3, 35 + 20, 5);
        plan("apart as many as each wants", y, 1, 20, 2);
        plan("apart as many as each wants", y, 2, 20, 2);
    }

    // ---- "THE PLAN: of those of that cost the one with the fewest sacks bought, of these the first row by MONTHS."

    private static void boughtAtLeastCost() {
        plan("more sacks for less", one(8, "step 1 10;step 9 1;", 4), 1, 9, 9);
        plan("a later row for less", one(8, "step 1 10;months 2;rise 0 1;", 0, 3), 1, 30, 0, 3);
        plan("an earlier row for less", one(8, "step 1 10;months 2;rise 1 1;", 0, 3), 1, 30, 3, 0);
    }

    private static void boughtFewestBeforeFirst() {
        // 1 and 6 are 10 and 30 as well, and the row comes first.
        plan("5 and 0", one(4, "step 1 10;step 5 8;step 6 5;months 2;", 1, 4), 1, 40, 5, 0);
        plan("1 and 6 are less", one(4, "step 1 9;step 5 8;step 6 5;months 2;", 1, 4), 1, 39, 1, 6);
        // 2 and 2 are 20, 4 as well, and 5 at once as well.
        plan("4 for as much as 5", one(8, "step 1 5;step 5 4;months 2;", 2, 2), 1, 20, 2, 2);
    }

    private static void boughtFirstOfFewest() {
        plan("nothing ahead", one(8, "step 1 10;months 4;", 1, 0, 2, 1), 1, 40, 1, 0, 2, 1);
        // 3 0 0, 1 2 0 and others are 3 for each; the rise lets just month 2 out.
        plan("not in month 2", one(8, "step 1 3;months 3;rise 2 1;", 1, 1, 1), 1, 9, 1, 2, 0);
        // In month 0 or in month 2, with one kept: as dear.
        plan("of two ways the first row", one(8, "step 1 10;months 3;keep 2;rise 0 1;rise 1 3;rise 2 5;", 0, 0, 1), 1, 15,
                0, 0, 1);
        plan("of two ways the first row", one(8, "step 2 5;months 3;", 0, 1, 1), 1, 10, 0, 2, 0);
    }

    private static void boughtThoughNothingIsWanted() {
        plan("nothing", one(8, "step 1 10;step 2 1;months 2;", 0, 0), 1, 0, 0, 0);
        // 3 wanted in month 1 are dearer than 4 in month 0.
        plan("ahead of the first want", one(8, "step 1 10;step 4 2;months 2;rise 1 3;", 0, 3), 1, 8, 4, 0);
        plan("and as dear as then", one(8, "step 1 10;step 4 2;months 2;", 0, 3), 1, 8, 0, 4);
    }

    // ---- "TOTAL of a set: the least that it is parted into groups with COSTS at, together"

    private static void totalOfParts() {
        // One 10, two 12 + 2, three 21 + 4, four 24 + 6 (by two and two), five 33 + 8 and so on: pairs are best.
        CoalStreet x = told("step 1 10;step 2 6;step 3 7;step 4 9;gather 2;", 1, 1, 1, 1, 1, 1, 1);
        int[] due = {10, 14, 24, 28, 38, 42, 52};
        for (int set = 1; set <= 127; set++) {
            int some = set;
            due("total of " + set, due[Integer.bitCount(set) - 1], () -> x.least(some));
        }
        int[] groups = {1, 1, 2, 2, 3, 3, 4};
        for (int n = 1; n <= 7; n++) {
            int set = (1 << n) - 1;
            due("groups of " + n, groups[n - 1], () -> x.group(set, -1));
        }
    }

    private static void totalOfGroupsWithCosts() {
        CoalStreet x = new CoalStreet();
        for (int i = 0; i < 4; i++) {
            x.house(0);
            x.want(i, 0, 1);
        }
        Streets.tell(x, "step 2 5;");
        due("nobody trusts", -1, () -> x.least(15));
        x.trust(0, 1, true);
        due("two of them", -1, () -> x.least(15));
        due("these two", 10, () -> x.least(3));
        x.trust(3, 2, true);
        due("two and two", 20, () -> x.least(15));
        groups("two and two", x, 15, 0, 0, 1, 1);
        due("no group of three", -1, () -> x.least(7));
        x.trust(2, 1, true);
        due("a group of three", 15, () -> x.least(7));
        due("no group of four, two and two still", 20, () -> x.least(15));
        x.bar(0, 1);
        due("who is barred is left alone", -1, () -> x.least(15));
        due("the others", -1, () -> x.least(14));
        x.trust(3, 1, true);
        due("the others with a holder", 15, () -> x.least(14));
    }

    private static void totalIsNotAboveCost() {
        for (int seed = 0; seed < 20; seed++) {
            CoalStreet x = told("step 1 9;step " + (2 + seed % 5) + " 7;step " + (7 + seed % 4) + " 4;gather " + seed % 7
                    + ";cart 5 " + seed + ";", 1 + seed % 3, 2, seed % 5, 3, seed % 8);
            for (int set = 1; set < 32; set++) {
                int some = set;
                due("total of " + set + " is at most its cost", true, () -> x.least(some) <= x.cost(some));
                for (int sub = (set - 1) & set; sub > 0; sub = (sub - 1) & set) {
                    int part = sub;
                    due("nor above the totals of its parts", true,
                            () -> x.least(some) <= x.least(part) + x.least(some ^ part));
                }
            }
        }
    }

    // ---- "GROUPS: of such partings the first by the row of numbers of groups (HOUSEHOLDS by number, groups numbered as
    // they come)."

    private static void groupsAreOfLeastTotal() {
        CoalStreet x = told("step 1 10;step 5 8;gather 3;", 2, 3, 4, 1);
        // 0 and 1: 40 + 3; 2 and 3: 40 + 3; 0, 1, 2: 72 + 6; all 80 + 9. Apart 20, 30, 40, 10.
        groups("two and two", x, 15, 0, 0, 1, 1);
        due("their total", 86, () -> x.least(15));
        x.want(3, 0, 0);
        // 0, 1 and 2: 78; 0 and 1 43, 2 40, 3 nothing.
        groups("three and one", x, 15, 0, 0, 0, 1);
        due("their total", 78, () -> x.least(15));
        groups("three", x, 7, 0, 0, 0);
    }

    /** Two partings that are alike up to a household: the lesser number there decides, whatever comes behind. */
    private static void groupsFirstByTheWholeRow() {
        CoalStreet x = pairs();
        groups("0 with 1, 2 with 3", x, 15, 0, 0, 1, 1);
        x.bar(0, 1);
        groups("0 with 3, 1 with 2", x, 15, 0, 1, 1, 0);
        x.bar(1, 2);
        groups("0 with 3 rather than 1 or 2 with 3", x, 15, 0, 1, 2, 0);
        x.bar(0, 3);
        groups("1 with 3 rather than 2", x, 15, 0, 1, 2, 1);
        x.bar(1, 3);
        groups("2 with 3", x, 15, 0, 1, 2, 2);
        x.bar(2, 3);
        groups("each alone", x, 15, 0, 1, 2, 3);
    }

    /**
     * Alone 10, 20, 10, 20; two that buy 3 are 27 + 3, 1 and 3 (of 3 and 1) 37 + 3, as much as alone; 0 and 2, and three
     * and more are more.
     */
    private static CoalStreet pairs() {
        return told("step 1 10;step 3 9;step 4 10;gather 3;", 1, 2, 1, 2);
    }

    private static void groupsOfEachSetByItself() {
        CoalStreet x = pairs();
        groups("of 0, 2, 3", x, 13, 0, -1, 1, 0);
        groups("of 1, 2, 3", x, 14, -1, 0, 0, 1);
        groups("of 0, 1, 3", x, 11, 0, 0, -1, 1);
        groups("of 0 and 2", x, 5, 0, -1, 1, -1);
        groups("of 1 and 3", x, 10, -1, 0, -1, 0);
        groups("of 3", x, 8, -1, -1, -1, 0);
    }

    // ---- "NEWCOMER to a set: of its GROUPS (as without that one) with COSTS also with it, the one to which that adds
    // least; alone (its COST alone) goes ahead of like ones, then the group with the lesser least HOUSEHOLD."

    private static void newcomerByWhatItAdds() {
        CoalStreet x = told("step 1 10;step 5 7;gather 1;", 1, 4, 3, 2, 1);
        x.bar(0, 1);
        x.bar(0, 2);
        x.bar(1, 2);
        // Alone 10, 40, 30. 3: alone 20; to 0 30 + 1 - 10 = 21; to 1 42 + 1 - 40 = 3; to 2 35 + 1 - 30 = 6.
        due("3 adds 3 to 1", 1, () -> x.come(7, 3));
        due("and 6 to 2", 2, () -> x.come(5, 3));
        due("and 21 to 0, but 20 alone", 3, () -> x.come(1, 3));
        // 4: alone 10; to 1 35 + 1 - 40 = -4; to 2 40 + 1 - 30 = 11; to 0 21 - 10 = 11.
        due("4 adds less than nothing to 1", 1, () -> x.come(7, 4));
        due("else it is alone", 4, () -> x.come(5, 4));
        // It isn't the group that costs least, nor the greatest, nor the one with the least total.
        CoalStreet y = told("step 1 10;step 4 8;", 3, 7, 1);
        y.bar(0, 1);
        // To 0: 32 - 30; to 1: 64 - 56.
        due("2 more for 0, 8 for 1", 0, () -> y.come(3, 2));
        y.want(0, 0, 4);
        due("8 more for both", 0, () -> y.come(3, 2));
        y.want(1, 0, 3);
        due("8 for 0, 2 for 1", 1, () -> y.come(3, 2));
    }

    private static void newcomerWithItsCellar() {
        CoalStreet x = told("step 1 10;months 2;rise 1 20;keep 1;", 0, 0, 0);
        wants(x, 0, 1, 3);
        wants(x, 1, 1, 1);
        x.bar(0, 1);
        x.cellar(2, 2);
        // 0: 10 + 90, with the cellar 30 + 2 + 30: 38 less. 1: 10 + 30, with it 20 + 1: 19 less.
        due("its cellar spares most for 0", 0, () -> x.come(3, 2));
        due("also for 1", 1, () -> x.come(2, 2));
        wants(x, 1, 1, 4);
        due("as much for both", 0, () -> x.come(3, 2));
        wants(x, 0, 1, 0);
        due("for 1 alone", 1, () -> x.come(3, 2));
        x.cellar(2, 0);
        due("for none", 2, () -> x.come(3, 2));
    }

    /** A group with the newcomer needs a HOLDER of its own: the newcomer may be the one, or leave it without. */
    private static void newcomerWithAHolder() {
        CoalStreet x = new CoalStreet();
        for (int i = 0; i < 3; i++) {
            x.house(0);
            x.want(i, 0, 1);
        }
        x.trust(1, 0, true);
        Streets.tell(x, "step 1 10;step 2 5;");
        groups("two", x, 3, 0, 0);
        due("2 trusts nobody", 2, () -> x.come(3, 2));
        x.trust(2, 1, true);
        due("2 trusts 1, who doesn't hold", 2, () -> x.come(3, 2));
        x.trust(0, 2, true);
        due("0 trusts 2, 1 doesn't", 2, () -> x.come(3, 2));
        x.trust(1, 2, true);
        due("both trust 2, which holds", 0, () -> x.come(3, 2));
        x.trust(0, 2, false);
        due("1 alone trusts 2", 2, () -> x.come(3, 2));
        x.trust(2, 0, true);
        due("2 trusts 0, who holds for all", 0, () -> x.come(3, 2));
    }

    private static void newcomerAsWithout() {
        CoalStreet x = told("step 1 10;step 3 6;step 4 9;gather 2;", 1, 2, 1, 3);
        // 0 and 1 18 + 2, 2 10, or 0 and 2 20 + 2: 0 0 1. 3 alone 18.
        groups("without 3", x, 7, 0, 0, 1);
        // To 0 and 1: 54 + 4 - 20; to 2: 36 + 2 - 10.
        due("3 alone", 3, () -> x.come(7, 3));
        x.want(3, 0, 2);
        // Alone 20; to 0 and 1 45 + 4 - 20 = 29; to 2 18 + 2 - 10 = 10.
        due("3 to 2", 2, () -> x.come(7, 3));
        groups("with 3", x, 15, 0, 0, 1, 1);
        // Another set of the same street has other groups.
        groups("without 3 and 2", x, 3, 0, 0);
        due("3 to 0 and 1: alone", 3, () -> x.come(3, 3));
        groups("without 3 and 1", x, 5, 0, -1, 1);
        due("3 to 0 or 2", 0, () -> x.come(5, 3));
    }

    private static void newcomerChangesNothing() {
        for (int set = 1; set < 31; set++) {
            for (int h = 0; h < 5; h++) {
                int some = set;
                int house = h;
                if ((set >> h & 1) == 0) {
                    CoalStreet x = Twins.rich();
                    int due = x.come(set, h);
                    Twins.stays("come " + h + " to " + set, due, y -> y.come(some, house));
                }
            }
        }
    }

    // ---- promise 19: "What two sets without a HOUSEHOLD in common spare by being one (TOTALS apart less TOTAL
    // together) less a toll"

    private static void joinByTotals() {
        CoalStreet x = told("step 1 10;step 3 8;gather 1;", 1, 1, 1, 2);
        // Apart 10, 10, 10, 20; three and more together: three 24 + 2, 0 and 3 24 + 1, four 40 + 3.
        due("two are alone", 0, () -> x.join(1, 2, 0));
        due("three", 30 - 26, () -> x.join(3, 4, 0));
        due("three less a toll", 30 - 26 - 9, () -> x.join(3, 4, 9));
        due("0 and 3", 30 - 25, () -> x.join(1, 8, 0));
        // Of four: three and 3 26 + 20, or 0 and 3 25 + 20, or all 43.
        due("three and 3", 26 + 20 - 43, () -> x.join(7, 8, 0));
        due("two and two", 20 + 25 - 43, () -> x.join(6, 9, 0));
        x.bar(0, 3);
        // The others with 3: 32 + 2.
        due("0 and 3 barred", 0, () -> x.join(1, 8, 0));
        due("0 and the others", 0, () -> x.join(1, 14, 0));
        due("0 and the others less a toll", -100, () -> x.join(1, 14, 100));
        due("0 and 2, 1 and 3", 20 + 25 - 44, () -> x.join(5, 10, 0));
    }

    private static void joinBothWays() {
        CoalStreet x = Twins.rich();
        for (int one = 1; one < 32; one++) {
            for (int other = 1; other < 32; other++) {
                int a = one;
                int b = other;
                if ((a & b) == 0) {
                    int spare = x.least(a) + x.least(b) - x.least(a | b);
                    due("join " + a + " and " + b, spare - 5, () -> x.join(a, b, 5));
                    due("join " + b + " and " + a, spare - 5, () -> x.join(b, a, 5));
                }
            }
        }
    }

    // ---- each of these calls tells of the street as it is now, whatever was asked before.

    private static String answers(CoalStreet x) {
        StringBuilder all = new StringBuilder();
        int n = x.count(0);
        for (int set = 1; set < 1 << n; set++) {
            all.append(x.cost(set)).append(' ').append(x.least(set)).append(' ').append(x.bought(set, -1)).append(' ');
            for (int m = 0; m < x.count(3); m++) {
                all.append(x.bought(set, m)).append(' ');
            }
            for (int h = 0; h < n; h++) {
                all.append(x.group(set, h)).append((set >> h & 1) == 1 ? -2 : x.come(set, h)).append(' ');
            }
            int rest = (1 << n) - 1 ^ set;
            all.append(rest == 0 ? 0 : x.join(set, rest, 0)).append("; ");
        }
        return all.toString();
    }

    private static void answersAreOfNow() {
        Twins.Use[] changes = {x -> x.house(7), x -> x.want(0, 0, 8), x -> x.want(4, 2, 3), x -> x.want(1, 5, 3),
            x -> x.cellar(0, 8), x -> x.cellar(4, 8), x -> x.bar(0, 4), x -> x.bar(3, 2), x -> x.trust(4, 0, false),
            x -> x.trust(0, 4, true), x -> x.trust(3, 0, false), x -> x.take(0, 0), x -> x.take(1, 4),
            Twins.act(x -> x.restore(0)), Twins.act(x -> x.restore(2)), x -> Streets.tell(x, "step 1 9;gather 3;"),
            x -> Streets.tell(x, ""), x -> Streets.tell(x, "late ?"), x -> x.text(35), x -> x.doubt(0, 1, 1),
            x -> x.pay(0, 9), x -> x.by(9)};
        for (int i = 0; i < changes.length; i++) {
            CoalStreet asked = Twins.rich();
            asked.text(0);
            Streets.tell(asked, "above;step 4 9;step 1 12;cart 5 6;gather 2;keep 1;months 3;rise 1 2;");
            Streets.feed(asked, "step 1 77;gather 3;late 55;months 5;");
            CoalStreet fresh = Twins.rich();
            fresh.text(0);
            Streets.tell(fresh, "above;step 4 9;step 1 12;cart 5 6;gather 2;keep 1;months 3;rise 1 2;");
            Streets.feed(fresh, "step 1 77;gather 3;late 55;months 5;");
            answers(asked);
            changes[i].of(asked);
            changes[i].of(fresh);
            Twins.like("answers behind change " + i, answers(fresh), answers(asked));
        }
    }
}
