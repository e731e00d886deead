import java.util.function.Supplier;

/** The edges that promises 14 to 19 name, and the terms of PLAN, COST, TOTAL, GROUPS and NEWCOMER: each by itself. */
public final class EdgesOfSetsTest {
    private static final String NSE = Twins.NSE;
    private static final String IAE = Twins.IAE;
    private static final int BIG = Twins.BIG;
    private static final int SMALL = Twins.SMALL;

    private EdgesOfSetsTest() {
    }

    public static void main(String[] args) {
        setsOfAll();
        costOfNothing();
        costWithoutSteps();
        costCellarFull();
        costCellarsTogether();
        costKeptAtTheEnd();
        costKeptEachMonth();
        costKeptForLater();
        costMonthsThatCount();
        costGather();
        costBarred();
        costHolder();
        costGreatest();
        boughtMonths();
        boughtInAll();
        boughtWithoutCost();
        boughtThrowsInOrder();
        boughtFewest();
        boughtFirstRow();
        boughtAhead();
        boughtOfEachSet();
        leastOfParts();
        leastNone();
        groupHowMany();
        groupNotInTheSet();
        groupWithoutTotal();
        groupFirstRow();
        comeThrows();
        comeAloneAhead();
        comeLesserLeast();
        comeAddsLeast();
        comeNone();
        comeAsWithout();
        joinSpares();
        joinToll();
        joinNone();
        joinThrows();
        Check.end();
    }

    private static void due(String what, Object want, Check.Call call) {
        Check.due(what, want, call);
    }

    /** Households without trust, with these cellars. */
    private static CoalStreet cellars(int... rooms) {
        CoalStreet x = new CoalStreet();
        for (int room : rooms) {
            x.house(room);
        }
        return x;
    }

    private static void wants(CoalStreet x, int house, int... sacks) {
        for (int m = 0; m < sacks.length; m++) {
            x.want(house, m, sacks[m]);
        }
    }

    private static void trustAll(CoalStreet x, boolean is) {
        for (int i = 0; i < x.count(0); i++) {
            for (int j = 0; j < x.count(0); j++) {
                if (i != j) {
                    x.trust(i, j, is);
                }
            }
        }
    }

    /** "where nothing else is told a set is one of HOUSEHOLDS that there are, not empty" */
    private static void setsOfAll() {
        for (int n = 1; n <= 7; n++) {
            int[] wants = new int[n];
            Supplier<CoalStreet> maker = () -> Streets.trusting(wants);
            Twins.noSets("cost", n, maker, CoalStreet::cost);
            Twins.noSets("bought", n, maker, (x, set) -> x.bought(set, 0));
            Twins.noSets("least", n, maker, CoalStreet::least);
            Twins.noSets("group", n, maker, (x, set) -> x.group(set, 0));
        }
        Twins.noSets("cost", CoalStreet::cost);
        Twins.noSets("bought", (x, set) -> x.bought(set, 2));
        Twins.noSets("bought in all", (x, set) -> x.bought(set, -1));
        Twins.noSets("least", CoalStreet::least);
        Twins.noSets("group", (x, set) -> x.group(set, 4));
        Twins.noSets("how many groups", (x, set) -> x.group(set, -1));
    }

    // ---- promise 14: "COST of a set; NONE."

    private static void costOfNothing() {
        CoalStreet x = cellars(0, 8);
        trustAll(x, true);
        for (String text : new String[] {"", "step 60 1;", "months 6;keep 9;rise 0 9;", "cart 1 99;"}) {
            Streets.tell(x, text);
            due("nothing is wanted by " + text, 0, () -> x.cost(1));
            due("nothing is wanted by " + text, 0, () -> x.cost(2));
            due("nothing is wanted by " + text, 0, () -> x.cost(3));
        }
        Streets.tell(x, "gather 5;");
        due("but gathering costs", 5, () -> x.cost(3));
    }

    private static void costWithoutSteps() {
        CoalStreet x = cellars(8);
        x.want(0, 0, 1);
        due("without steps", -1, () -> x.cost(1));
        Streets.tell(x, "step 10 1;");
        due("1 wanted, 8 can be left: 9 isn't 10", -1, () -> x.cost(1));
        x.want(0, 0, 2);
        due("2 wanted and 8 left are 10", 10, () -> x.cost(1));
        Streets.tell(x, "step 10 1;months 2;");
        due("in two months as well", 10, () -> x.cost(1));
        x.want(0, 0, 1);
        x.want(0, 1, 3);
        due("never 10 at once in month 0", -1, () -> x.cost(1));
        x.want(0, 0, 0);
        x.want(0, 1, 2);
        due("10 in month 1", 10, () -> x.cost(1));
    }

    /** "what is left isn't above all their CELLARS" */
    private static void costCellarFull() {
        for (int room = 0; room <= 8; room++) {
            for (int want = 1; want <= 8; want++) {
                CoalStreet x = cellars(room);
                x.want(0, 0, want);
                Streets.tell(x, "step 9 5;");
                due(want + " wanted and " + room + " in the cellar", want + room >= 9 ? 45 : -1, () -> x.cost(1));
            }
        }
    }

    private static void costCellarsTogether() {
        CoalStreet x = cellars(1, 0, 3);
        trustAll(x, true);
        x.want(1, 0, 5);
        Streets.tell(x, "step 9 5;");
        int[] due = {0, -1, -1, 0, 0, -1, 45};
        for (int set = 1; set <= 7; set++) {
            int some = set;
            due("cellars of set " + set, due[set - 1], () -> x.cost(some));
        }
        x.cellar(0, 0);
        due("one sack too much", -1, () -> x.cost(7));
        x.cellar(1, 1);
        due("one that wants has room as well", 45, () -> x.cost(7));
    }

    /** "keep for each sack left in each MONTH (the last one, too)" */
    private static void costKeptAtTheEnd() {
        CoalStreet x = cellars(4);
        x.want(0, 0, 5);
        Streets.tell(x, "step 9 5;keep 3;");
        due("4 are left in the last month", 45 + 12, () -> x.cost(1));
        Streets.tell(x, "step 9 5;keep 3;months 2;");
        due("4 are left in two months", 45 + 24, () -> x.cost(1));
        Streets.tell(x, "step 9 5;keep 3;months 6;");
        due("4 are left in six months", 45 + 72, () -> x.cost(1));
        x.want(0, 3, 4);
        due("4 are left in three months", 45 + 36, () -> x.cost(1));
        x.want(0, 0, 1);
        x.want(0, 3, 8);
        due("1 can't be", -1, () -> x.cost(1));
    }

    private static void costKeptEachMonth() {
        CoalStreet x = cellars(8);
        wants(x, 0, 0, 0, 1);
        Streets.tell(x, "step 1 10;months 3;keep 2;rise 1 9;rise 2 5;");
        due("in month 0 and kept twice, or in month 2", 14, () -> x.cost(1));
        Streets.tell(x, "step 1 10;months 3;keep 3;rise 1 9;rise 2 5;");
        due("in month 2", 15, () -> x.cost(1));
        Streets.tell(x, "step 1 10;months 3;keep 2;rise 0 4;rise 1 2;rise 2 9;");
        due("in month 1 and kept once", 14, () -> x.cost(1));
    }

    /** "with what was kept (0 at first) they are the WANTS of all of the set then, or more" */
    private static void costKeptForLater() {
        CoalStreet x = cellars(8);
        wants(x, 0, 1, 1, 1, 1, 1, 1);
        Streets.tell(x, "step 1 10;months 6;rise 1 99;rise 2 99;rise 3 99;rise 4 99;rise 5 99;");
        due("all in month 0", 60, () -> x.cost(1));
        x.cellar(0, 5);
        due("the cellar holds five", 60, () -> x.cost(1));
        x.cellar(0, 4);
        due("the cellar holds four", 159, () -> x.cost(1));
        x.cellar(0, 0);
        due("no cellar", 60 + 5 * 99, () -> x.cost(1));
        Streets.tell(x, "step 1 10;months 6;rise 0 99;");
        x.cellar(0, 8);
        due("nothing is there at first", 60 + 99, () -> x.cost(1));
    }

    private static void costMonthsThatCount() {
        CoalStreet x = cellars(0);
        wants(x, 0, 1, 2, 3, 4, 5, 6);
        int[] due = {10, 30, 60, 100, 150, 210};
        for (int months = 1; months <= 6; months++) {
            Streets.tell(x, "step 1 10;months " + months + ";");
            due(months + " months", due[months - 1], () -> x.cost(1));
        }
    }

    /** "gather for each HOUSEHOLD but one" */
    private static void costGather() {
        CoalStreet x = Streets.trusting(1, 1, 1, 1, 1, 1, 1);
        Streets.tell(x, "step 1 10;gather 99;");
        for (int set = 1; set <= 127; set++) {
            int some = set;
            int n = Integer.bitCount(set);
            due("gather for " + set, 10 * n + 99 * (n - 1), () -> x.cost(some));
        }
    }

    private static void costBarred() {
        CoalStreet x = Streets.trusting(1, 1, 1, 1);
        Streets.tell(x, "step 1 10;");
        x.bar(1, 3);
        due("two that are barred", -1, () -> x.cost(10));
        due("more with these two", -1, () -> x.cost(15));
        due("more with one of them", 30, () -> x.cost(7));
        due("more with the other one", 30, () -> x.cost(13));
        due("each of them alone", 10, () -> x.cost(2));
        due("each of them alone", 10, () -> x.cost(8));
    }

    /** "or it is of two or more without HOLDER" */
    private static void costHolder() {
        CoalStreet x = Streets.trusting(1, 1, 1);
        Streets.tell(x, "step 1 10;");
        trustAll(x, false);
        for (int set = 1; set <= 7; set++) {
            int some = set;
            due("nobody trusts in " + set, Integer.bitCount(set) == 1 ? 10 : -1, () -> x.cost(some));
        }
        x.trust(0, 2, true);
        due("of two with a holder", 20, () -> x.cost(5));
        due("of three without", -1, () -> x.cost(7));
        x.trust(1, 2, true);
        due("of three with one", 30, () -> x.cost(7));
        due("of two whose holder isn't there", -1, () -> x.cost(3));
    }

    private static void costGreatest() {
        CoalStreet x = cellars(8, 8, 8, 8, 8, 8, 8);
        trustAll(x, true);
        for (int i = 0; i < 7; i++) {
            wants(x, i, 8, 8, 8, 8, 8, 8);
        }
        Streets.tell(x, "step 1 99;cart 1 99;gather 99;keep 99;months 6;rise 0 99;rise 1 99;rise 2 99;rise 3 99;"
                + "rise 4 99;rise 5 99;");
        due("the most that a set can cost by each sack", 336 * 297 + 6 * 99, () -> x.cost(127));
        due("its sacks", 336, () -> x.bought(127, -1));
        due("its total", 336 * 297, () -> x.least(127));
        Streets.tell(x, "step 1 99;step 60 1;months 6;");
        // Five times 60 and more, so that none is left at the end.
        due("from 60 on for 1 each", 336, () -> x.cost(127));
        for (int i = 0; i < 7; i++) {
            x.cellar(i, i < 4 ? 1 : 0);
        }
        due("60 in each second month, of which 4 are left, and 52 between", 3 * (60 + 52 * 99), () -> x.cost(127));
        due("4 sacks in the last cellar are wanted less", 52, () -> x.bought(127, 5));
        for (int i = 0; i < 7; i++) {
            wants(x, i, 8, 0, 0, 0, 0, 0);
        }
        Streets.tell(x, "step 1 99;step 60 98;months 1;keep 99;");
        due("all is wanted in one month", 56 * 99, () -> x.cost(127));
        Streets.tell(x, "above;step 1 99;step 60 1;months 1;");
        due("above it is never less", 56 * 99, () -> x.cost(127));
    }

    // ---- promise 15: "How many sacks THE PLAN of a set buys in a MONTH (month NONE: in all); NONE without COST.
    // NoSuchElementException: no such MONTH that counts."

    private static CoalStreet monthly(int months) {
        CoalStreet x = cellars(0);
        wants(x, 0, 1, 2, 3, 4, 5, 6);
        Streets.tell(x, "step 1 10;months " + months + ";");
        return x;
    }

    private static void boughtMonths() {
        for (int months = 1; months <= 6; months++) {
            int last = months - 1;
            Supplier<CoalStreet> maker = () -> monthly(last + 1);
            due("the first month of " + months, 1, () -> maker.get().bought(1, 0));
            due("the last month of " + months, months, () -> maker.get().bought(1, last));
            for (int month : new int[] {-2, -3, months, months + 1, 6, 7, SMALL, BIG}) {
                Twins.stays("month " + month + " of " + months, NSE, maker, x -> x.bought(1, month));
            }
        }
        for (int month : new int[] {-2, 3, 5, 6, SMALL, BIG}) {
            Twins.stays("month " + month, NSE, x -> x.bought(1, month));
        }
    }

    private static void boughtInAll() {
        int[] due = {1, 3, 6, 10, 15, 21};
        for (int months = 1; months <= 6; months++) {
            CoalStreet x = monthly(months);
            due("in all of " + months + " months", due[months - 1], () -> x.bought(1, CoalStreet.NONE));
        }
        CoalStreet x = cellars(8);
        due("nothing", 0, () -> x.bought(1, 0));
        due("nothing in all", 0, () -> x.bought(1, -1));
    }

    private static void boughtWithoutCost() {
        CoalStreet x = Streets.trusting(1, 1);
        Streets.tell(x, "step 1 10;months 2;");
        due("with COST", 2, () -> x.bought(3, -1));
        trustAll(x, false);
        withoutCost("without HOLDER", x, 3);
        trustAll(x, true);
        x.bar(0, 1);
        withoutCost("barred", x, 3);
        Streets.tell(x, "step 3 10;months 2;");
        withoutCost("without a plan", x, 1);
        due("no such month comes first", NSE, () -> x.bought(1, 2));
    }

    private static void withoutCost(String why, CoalStreet x, int set) {
        for (int m = -1; m < 2; m++) {
            int month = m;
            due(why, -1, () -> x.bought(set, month));
        }
    }

    private static void boughtThrowsInOrder() {
        for (int set : new int[] {0, 32, -1, SMALL}) {
            Twins.stays("no such month, no set", NSE, x -> x.bought(set, 3));
            Twins.stays("no such month, no set", NSE, x -> x.bought(set, -2));
            Twins.stays("a month, no set", IAE, x -> x.bought(set, 2));
        }
    }

    /** "of those of that cost the one with the fewest sacks bought" */
    private static void boughtFewest() {
        CoalStreet x = cellars(8);
        x.want(0, 0, 4);
        Streets.tell(x, "step 1 10;step 5 8;");
        due("4 for 40 are fewer than 5", 4, () -> x.bought(1, -1));
        Streets.tell(x, "step 1 10;step 5 7;");
        due("5 for 35", 5, () -> x.bought(1, -1));
        due("5 for 35 in month 0", 5, () -> x.bought(1, 0));
        Streets.tell(x, "step 1 10;step 5 8;step 8 5;step 10 4;");
        due("of 4, 5, 8 and 10 for 40 each the fewest", 4, () -> x.bought(1, -1));
        wants(x, 0, 3, 3);
        Streets.tell(x, "step 1 10;step 4 9;step 9 4;months 2;");
        // 6 for 54 at once, 9 for 36 at once with 6 left then.
        due("9 in all", 9, () -> x.bought(1, -1));
        x.cellar(0, 5);
        // Now no 9 at once: 6 in month 0.
        due("6 in all", 6, () -> x.bought(1, -1));
        due("6 in month 0", 6, () -> x.bought(1, 0));
        due("0 in month 1", 0, () -> x.bought(1, 1));
    }

    /** "of these the first row by MONTHS" */
    private static void boughtFirstRow() {
        CoalStreet x = cellars(8);
        wants(x, 0, 1, 1, 1);
        Streets.tell(x, "step 1 10;months 3;");
        rowOf(x, 1, 1, 1, 1);
        x.want(0, 0, 0);
        rowOf(x, 1, 0, 1, 1);
        wants(x, 0, 1, 1, 2);
        Streets.tell(x, "step 1 10;step 2 9;months 3;");
        // 2 0 2, 2 2 0 and 4 0 0 are 36 each; 1 1 2 and 1 3 0 are more.
        rowOf(x, 1, 2, 0, 2);
        wants(x, 0, 0, 2, 2);
        // 0 2 2, 0 4 0, 2 0 2, 2 2 0 and 4 0 0 are 36 each.
        rowOf(x, 1, 0, 2, 2);
        wants(x, 0, 1, 2, 2, 2);
        Streets.tell(x, "step 1 10;step 3 9;months 4;");
        // 3 0 4 0, 3 4 0 0, 4 0 3 0, 4 3 0 0 and 7 0 0 0 are 63 each; 1 3 3 0 and 3 0 3 1 are 64.
        rowOf(x, 1, 3, 0, 4, 0);
    }

    /** More is kept than is wanted next, and other months are dearer. */
    private static void boughtAhead() {
        CoalStreet x = cellars(8);
        wants(x, 0, 1, 1, 1, 1, 1, 1);
        Streets.tell(x, "step 1 10;step 6 5;months 6;");
        rowOf(x, 1, 6, 0, 0, 0, 0, 0);
        wants(x, 0, 1, 2, 1, 2, 1, 2);
        // 9 at once, of which 8 are left.
        rowOf(x, 1, 9, 0, 0, 0, 0, 0);
        x.cellar(0, 5);
        // 6 in month 0 last till month 3 (60 in all), 7 in month 1 till month 4 (55).
        rowOf(x, 1, 1, 7, 0, 0, 0, 1);
        Streets.tell(x, "step 1 10;months 6;rise 0 3;rise 1 2;rise 2 1;rise 3 9;rise 4 9;rise 5 9;");
        rowOf(x, 1, 1, 2, 6, 0, 0, 0);
        Streets.tell(x, "step 1 10;months 6;rise 0 3;rise 1 2;rise 2 9;rise 3 1;rise 4 9;keep 1;");
        rowOf(x, 1, 1, 3, 0, 3, 0, 2);
        Streets.tell(x, "step 1 10;months 6;rise 1 9;rise 2 9;rise 3 9;rise 4 9;rise 5 9;");
        rowOf(x, 1, 6, 0, 0, 0, 1, 2);
        x.cellar(0, 0);
        rowOf(x, 1, 1, 2, 1, 2, 1, 2);
    }

    /** One set after another one, each with its own cellars. */
    private static void boughtOfEachSet() {
        CoalStreet x = cellars(0, 2, 8);
        trustAll(x, true);
        for (int h = 0; h < 3; h++) {
            wants(x, h, 1, 1, 1);
        }
        Streets.tell(x, "step 1 10;months 3;rise 1 5;rise 2 9;");
        int[][] due = {{1, 1, 1}, {3, 0, 0}, {4, 2, 0}, {3, 0, 0}, {6, 0, 0}, {6, 0, 0}, {9, 0, 0}};
        for (int round = 0; round < 2; round++) {
            for (int set = 1; set <= 7; set++) {
                int some = set;
                int other = 8 - set;
                due("cost of another one", true, () -> x.cost(other) > 0);
                rowOf(x, some, due[set - 1]);
            }
        }
    }

    private static void rowOf(CoalStreet x, int set, int... row) {
        StringBuilder got = new StringBuilder();
        StringBuilder want = new StringBuilder();
        for (int m = 0; m < row.length; m++) {
            want.append(row[m]).append(' ');
            got.append(x.bought(set, m)).append(' ');
        }
        Check.same("the first row", want.toString(), got.toString());
    }

    // ---- promise 16: "TOTAL of a set; NONE."

    private static void leastOfParts() {
        CoalStreet x = Streets.trusting(1, 1, 1, 1, 1, 1, 1);
        Streets.tell(x, "step 1 10;step 3 6;gather 5;");
        // One 10, two 25, three 28, four 39, five 50, six 61, seven 72.
        int[] due = {10, 20, 28, 38, 48, 56, 66};
        for (int n = 1; n <= 7; n++) {
            int set = (1 << n) - 1;
            due("total of " + n, due[n - 1], () -> x.least(set));
            due("total of the last " + n, due[n - 1], () -> x.least(set << 7 - (set == 0 ? 0 : Integer.bitCount(set))));
        }
        due("of one it is its cost", 10, () -> x.least(64));
    }

    private static void leastNone() {
        CoalStreet x = Streets.trusting(1, 1, 0);
        Streets.tell(x, "step 2 10;");
        due("one can't", -1, () -> x.least(1));
        due("two can", 20, () -> x.least(3));
        due("one can't, and one wants nothing", -1, () -> x.least(5));
        due("three can", 20, () -> x.least(7));
        x.trust(0, 1, false);
        x.trust(1, 0, false);
        due("two without holder can't", -1, () -> x.least(3));
        due("three can still", 20, () -> x.least(7));
        x.bar(0, 1);
        due("nor can three of whom two are barred", -1, () -> x.least(7));
        due("who wants nothing can", 0, () -> x.least(4));
    }

    // ---- promise 17: "In which of GROUPS of a set a HOUSEHOLD is (house NONE: how many there are); NONE if it isn't in
    // the set, or without TOTAL."

    private static void groupHowMany() {
        CoalStreet x = Streets.trusting(1, 1, 1, 1, 1, 1, 1);
        for (int set = 1; set <= 127; set++) {
            int some = set;
            Streets.tell(x, "step 1 10;gather 1;");
            due("each alone", Integer.bitCount(set), () -> x.group(some, CoalStreet.NONE));
            due("the last one of these", Integer.bitCount(set) - 1,
                    () -> x.group(some, 31 - Integer.numberOfLeadingZeros(some)));
            Streets.tell(x, "step 1 10;");
            due("all in one", 1, () -> x.group(some, CoalStreet.NONE));
            due("the last one of these", 0, () -> x.group(some, 31 - Integer.numberOfLeadingZeros(some)));
        }
    }

    private static void groupNotInTheSet() {
        for (int house : new int[] {-2, 1, 3, 4, 5, 6, 7, 31, 32, 34, 64, SMALL, BIG}) {
            Twins.stays("household " + house + " isn't of 0 and 2", -1, x -> x.group(5, house));
        }
        due("0 is", 0, () -> Twins.rich().group(5, 0));
        // Together, as the cellar of 2 holds what 0 wants in month 1: 72 + 10 + 4 + 2, alone 62 + 32.
        due("2 is", 0, () -> Twins.rich().group(5, 2));
        for (int house : new int[] {7, 8, -2, 31, 32, 39, SMALL, BIG}) {
            due("household " + house + " isn't of seven", -1,
                    () -> Streets.trusting(1, 1, 1, 1, 1, 1, 1).group(127, house));
        }
    }

    private static void groupWithoutTotal() {
        CoalStreet x = Streets.trusting(1, 1);
        for (int house = -2; house < 4; house++) {
            int h = house;
            due("without TOTAL", -1, () -> x.group(3, h));
        }
    }

    /** "of such partings the first by the row of numbers of groups" */
    private static void groupFirstRow() {
        CoalStreet x = Streets.trusting(1, 1, 1);
        Streets.tell(x, "step 1 10;");
        groups(x, 7, 0, 0, 0);
        x.bar(0, 1);
        groups(x, 7, 0, 1, 0);
        x.bar(0, 2);
        groups(x, 7, 0, 1, 1);
        x.bar(1, 2);
        groups(x, 7, 0, 1, 2);
        CoalStreet y = Streets.trusting(2, 1, 1, 2);
        Streets.tell(y, "step 1 10;step 3 8;gather 8;");
        // 0 and 3 together are 32 and 8, as much as 20 and 20 alone; any others together are more than alone.
        groups(y, 15, 0, 1, 2, 0);
        groups(y, 9, 0, -1, -1, 0);
        groups(y, 6, -1, 0, 1, -1);
        CoalStreet z = cellars(0, 0, 0, 0, 0);
        for (int h = 0; h < 5; h++) {
            z.want(h, 0, 1);
        }
        z.trust(3, 0, true);
        z.trust(2, 1, true);
        z.trust(4, 3, true);
        z.trust(4, 2, true);
        Streets.tell(z, "step 1 10;");
        // All cost 50; with 0 just 3 can be: 0 1 1 0 2 and 0 1 1 2 2 are ahead of 0 1 2 0 2.
        groups(z, 31, 0, 1, 1, 0, 2);
        z.bar(0, 3);
        groups(z, 31, 0, 1, 1, 2, 2);
        z.bar(1, 2);
        groups(z, 31, 0, 1, 2, 3, 2);
        z.bar(2, 4);
        groups(z, 31, 0, 1, 2, 3, 3);
    }

    private static void groups(CoalStreet x, int set, int... row) {
        for (int i = 0; i < row.length; i++) {
            int h = i;
            due("group of " + i + " in " + set, row[i], () -> x.group(set, h));
        }
    }

    // ---- promise 18: "NEWCOMER to a set: the least HOUSEHOLD of the group (that one itself: alone); NONE if there is
    // none, or no TOTAL. NoSuchElementException: no such HOUSEHOLD; IllegalArgumentException: it is in the set."

    private static void comeThrows() {
        Twins.noHouses("come", NSE, (x, h) -> x.come(1, h));
        Twins.noHouses("come to no set", NSE, (x, h) -> x.come(0, h));
        Twins.noHouses("come to no set", NSE, (x, h) -> x.come(32, h));
        Twins.wrongSets("come", (x, set) -> x.come(set, 4));
        for (int h = 0; h < 5; h++) {
            int house = h;
            Twins.stays("it is in the set", IAE, x -> x.come(31, house));
            Twins.stays("it is the set", IAE, x -> x.come(1 << house, house));
            due("it is all but the set", false, () -> Check.answer(() -> Twins.rich().come(31 ^ 1 << house, house))
                    .startsWith("throws"));
        }
        CoalStreet y = Streets.trusting(1, 1);
        due("it is in a set without TOTAL", IAE, () -> y.come(3, 1));
    }

    /** "alone (its COST alone) goes ahead of like ones" */
    private static void comeAloneAhead() {
        CoalStreet x = Streets.trusting(1, 1, 1);
        Streets.tell(x, "step 1 10;");
        due("the group adds as much", 2, () -> x.come(3, 2));
        due("of one", 2, () -> x.come(1, 2));
        Streets.tell(x, "step 1 10;gather 1;");
        due("alone adds less", 2, () -> x.come(3, 2));
        Streets.tell(x, "step 1 10;step 3 9;gather 1;");
        // Three in one would be 27 and 2, but 0 and 1 are each alone: with one of them it is 20 and 1.
        due("they buy alone: two add 11", 2, () -> x.come(3, 2));
        Streets.tell(x, "step 1 10;step 2 9;");
        due("the group adds less", 0, () -> x.come(1, 2));
    }

    /** "then the group with the lesser least HOUSEHOLD" */
    private static void comeLesserLeast() {
        CoalStreet x = Streets.trusting(1, 1, 1, 1);
        Streets.tell(x, "step 1 10;step 2 8;");
        for (int i = 0; i < 3; i++) {
            for (int j = i + 1; j < 3; j++) {
                x.bar(i, j);
            }
        }
        due("three groups are alike", 0, () -> x.come(7, 3));
        due("two groups are alike", 1, () -> x.come(6, 3));
        x.want(0, 0, 2);
        // To 0: 24 - 16 = 8, to 1: 16 - 10 = 6.
        due("the group to which it adds less", 1, () -> x.come(7, 3));
        CoalStreet y = Streets.trusting(1, 1, 1, 1);
        Streets.tell(y, "step 1 10;step 2 8;");
        y.bar(1, 2);
        y.bar(1, 3);
        y.bar(2, 3);
        due("the newcomer is the first household", 1, () -> y.come(14, 0));
        due("it goes to the lesser one of the others", 2, () -> y.come(12, 0));
    }

    /** "of its GROUPS (as without that one) with COSTS also with it, the one to which that adds least" */
    private static void comeAddsLeast() {
        CoalStreet x = Streets.trusting(1, 1, 2, 1);
        Streets.tell(x, "step 1 10;step 3 6;gather 1;");
        x.bar(0, 2);
        x.bar(1, 2);
        // 0 and 1 are each alone (10, 10); 2 alone 20, with 3 for 18 + 1: less than without it.
        due("that it adds less than nothing", 2, () -> x.come(7, 3));
        x.bar(2, 3);
        due("then alone: 0 and 3 would be 21", 3, () -> x.come(7, 3));
        CoalStreet y = Streets.trusting(1, 1, 1);
        Streets.tell(y, "step 1 10;step 2 8;");
        y.trust(2, 0, false);
        y.trust(0, 2, false);
        due("a group that has no COST with it: 0 and 2 without HOLDER", 2, () -> y.come(1, 2));
        y.trust(2, 0, true);
        due("with HOLDER", 0, () -> y.come(1, 2));
    }

    /** "NONE if there is none, or no TOTAL" */
    private static void comeNone() {
        CoalStreet x = Streets.trusting(2, 1, 2);
        Streets.tell(x, "step 2 10;");
        x.bar(0, 1);
        due("neither alone nor a group", -1, () -> x.come(1, 1));
        due("a group alone", 2, () -> x.come(4, 1));
        due("just a group with one from whom it is barred", -1, () -> x.come(5, 1));
        Streets.tell(x, "step 2 10;gather 1;");
        due("one of two groups", 2, () -> x.come(5, 1));
        due("no TOTAL", -1, () -> x.come(2, 0));
        due("alone alone", 0, () -> x.come(4, 0));
    }

    private static void comeAsWithout() {
        CoalStreet x = Streets.trusting(1, 1, 1);
        Streets.tell(x, "step 1 10;step 3 1;gather 1;");
        // All three would be 3 + 2, but 0 and 1 are each alone without 2: 0 and 2 are 21.
        due("groups are as without the newcomer", 2, () -> x.come(3, 2));
        due("all three together", 5, () -> x.least(7));
    }

    // ---- promise 19: "What two sets without a HOUSEHOLD in common spare by being one (TOTALS apart less TOTAL
    // together) less a toll (0 to 100,000); -1,000,000 where a TOTAL is none. IllegalArgumentException: also if they
    // have one, the toll."

    private static void joinSpares() {
        CoalStreet x = Streets.trusting(1, 1, 1, 1, 1, 1, 1);
        Streets.tell(x, "step 1 10;step 7 4;");
        due("one and six", 10 + 60 - 28, () -> x.join(1, 126, 0));
        due("six and one", 10 + 60 - 28, () -> x.join(126, 1, 0));
        due("the last and the first six", 10 + 60 - 28, () -> x.join(64, 63, 0));
        due("three and four", 30 + 40 - 28, () -> x.join(7, 120, 0));
        due("nothing is spared", 0, () -> x.join(7, 56, 0));
    }

    private static void joinToll() {
        due("toll 0", 94 + 16 - 109, () -> Twins.rich().join(1, 2, 0));
        due("toll 1", 0, () -> Twins.rich().join(1, 2, 1));
        due("toll 100,000", -99999, () -> Twins.rich().join(1, 2, 100000));
        for (int toll : new int[] {-1, 100001, SMALL, BIG}) {
            Twins.stays("toll " + toll, IAE, x -> x.join(1, 2, toll));
            Twins.stays("toll " + toll + " where a TOTAL is none", IAE, () -> Streets.trusting(1, 1),
                    x -> x.join(1, 2, toll));
        }
    }

    private static void joinNone() {
        CoalStreet x = Streets.trusting(1, 1, 2, 1);
        Streets.tell(x, "step 2 5;");
        due("both TOTALS", 0, () -> x.join(3, 4, 0));
        due("the first is none", -1000000, () -> x.join(1, 4, 0));
        due("the second is none", -1000000, () -> x.join(4, 1, 7));
        due("both are none, that together isn't", -1000000, () -> x.join(1, 2, 100000));
        x.bar(0, 1);
        due("all are none", -1000000, () -> x.join(1, 2, 0));
    }

    private static void joinThrows() {
        Twins.wrongSets("join with the second", (x, set) -> x.join(set, 2, 0));
        Twins.wrongSets("join with the first", (x, set) -> x.join(1, set, 0));
        for (int set = 1; set < 32; set++) {
            int some = set;
            Twins.stays("one set twice", IAE, x -> x.join(some, some, 0));
            Twins.stays("one of all", IAE, x -> x.join(31, some, 0));
        }
        Twins.stays("one in common", IAE, x -> x.join(3, 6, 0));
        Twins.stays("the last one in common", IAE, x -> x.join(17, 18 ^ 2 ^ 8, 0));
        due("none in common", false, () -> Check.answer(() -> Twins.rich().join(21, 10, 0)).startsWith("throws"));
        CoalStreet y = Streets.trusting(1, 1);
        due("one in common where a TOTAL is none", IAE, () -> y.join(1, 3, 0));
    }
}
