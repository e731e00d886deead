import java.util.function.Supplier;

/** The edges that promises 31 to 34 name, and the terms of DOUBTS, RISK, BEFORE and SELLER: each by itself. */
public final class EdgesOfDoubtTest {
    private static final String NSE = Twins.NSE;
    private static final String IAE = Twins.IAE;
    private static final int BIG = Twins.BIG;
    private static final int SMALL = Twins.SMALL;

    private EdgesOfDoubtTest() {
    }

    public static void main(String[] args) {
        doubtFour();
        doubtHouseholds();
        doubtSacks();
        doubtChance();
        doubtThrowsInOrder();
        doubtWithoutIsWant();
        doubtsByThemselves();
        riskSets();
        riskNumbers();
        riskThatCanNotBe();
        riskLateAndKeep();
        riskAsides();
        riskInTheFirstMonth();
        riskGreatest();
        beforeSets();
        beforeLeastOfLike();
        beforeFirstAndLast();
        beforeEachNumber();
        beforeInTheFirstMonth();
        beforeSkipsWhatCanNotBe();
        sellerSets();
        sellerPrice();
        sellerCost();
        sellerWhat();
        sellerThrowsInOrder();
        sellerInsteadOfAllSteps();
        sellerLeastOfLike();
        sellerFirstAndLastN();
        sellerFirstAndLastR();
        sellerGain();
        sellerLosses();
        sellerAgain();
        Check.end();
    }

    private static void due(String what, Object want, Check.Call call) {
        Check.due(what, want, call);
    }

    private static void risked(String what, CoalStreet x, int set, int q, long upper, long lower) {
        due(what, true, () -> x.risk(set, q));
        Check.same(what + " as a FRACTION", upper + "/" + lower, x.upper() + "/" + x.lower());
    }

    private static CoalStreet told(String text, int... wants) {
        CoalStreet x = Streets.trusting(wants);
        Streets.tell(x, text);
        return x;
    }

    // ---- promise 31: "A DOUBT more of a HOUSEHOLD: how many it has; NONE if it has 4. IllegalArgumentException: sacks,
    // chance." "what it may want in MONTH 0 (0 to 8), with a chance (1 to 9)"

    private static CoalStreet doubting(int many) {
        CoalStreet x = told("step 1 10;late 30;keep 1;", 1, 2, 3, 4, 5, 6, 7);
        for (int h = 0; h < 7; h++) {
            for (int i = 0; i < many; i++) {
                x.doubt(h, (h + 2 * i) % 9, 1 + (h * 3 + i) % 9);
            }
        }
        return x;
    }

    private static void doubtFour() {
        CoalStreet x = told("", new int[7]);
        int all = 0;
        for (int i = 1; i <= 4; i++) {
            for (int h = 0; h < 7; h++) {
                int due = i;
                int house = h;
                due("doubt " + i + " of household " + h, due, () -> x.doubt(house, 8, 9));
                all++;
                int has = all;
                due("all of them", has, () -> x.count(5));
            }
        }
        for (int h = 0; h < 7; h++) {
            int house = h;
            Twins.stays("a fifth doubt of " + h, -1, () -> doubting(4), y -> y.doubt(house, 0, 1));
            Twins.stays("a sixth doubt of " + h, -1, () -> doubting(4), y -> {
                y.doubt(house, 0, 1);
                return y.doubt(house, 8, 9);
            });
        }
        due("count(5)", 28, () -> x.count(5));
    }

    private static void doubtHouseholds() {
        Twins.noHouses("doubt", NSE, (x, h) -> x.doubt(h, 1, 1));
        Twins.noHouses("doubt of wrong numbers", NSE, (x, h) -> x.doubt(h, 9, 0));
        due("doubt of the first", 3, () -> Twins.rich().doubt(0, 1, 1));
        due("doubt of the last", 2, () -> Twins.rich().doubt(4, 1, 1));
    }

    private static void doubtSacks() {
        due("doubt 0", 1, () -> Twins.rich().doubt(3, 0, 1));
        due("doubt 8", 1, () -> Twins.rich().doubt(3, 8, 1));
        for (int sacks : new int[] {-1, 9, 10, 256, SMALL, BIG}) {
            Twins.stays("doubt " + sacks, IAE, x -> x.doubt(0, sacks, 1));
            Twins.stays("doubt " + sacks + " of one with four", IAE, () -> doubting(4), x -> x.doubt(6, sacks, 1));
        }
    }

    private static void doubtChance() {
        due("chance 1", 1, () -> Twins.rich().doubt(3, 8, 1));
        due("chance 9", 1, () -> Twins.rich().doubt(3, 8, 9));
        for (int chance : new int[] {0, -1, 10, 11, 256, SMALL, BIG}) {
            Twins.stays("chance " + chance, IAE, x -> x.doubt(0, 1, chance));
            Twins.stays("chance " + chance + " of one with four", IAE, () -> doubting(4), x -> x.doubt(6, 1, chance));
        }
    }

    private static void doubtThrowsInOrder() {
        Twins.stays("nobody, no such sacks, no chance", NSE, x -> x.doubt(5, -1, 10));
        Twins.stays("no such sacks, no chance", IAE, x -> x.doubt(4, -1, 10));
    }

    /** "without: its WANT for sure": of MONTH 0, and just as long as there is no DOUBT. */
    private static void doubtWithoutIsWant() {
        CoalStreet x = told("step 1 10;late 30;months 2;", 4, 0);
        x.want(1, 1, 8);
        risked("4 for sure", x, 1, 0, 120, 1);
        risked("0 for sure, 8 in the next month", x, 2, 0, 0, 1);
        risked("both", x, 3, 0, 120, 1);
        x.doubt(0, 1, 1);
        risked("1 by its only doubt", x, 1, 0, 30, 1);
        risked("both", x, 3, 0, 30, 1);
        x.want(0, 0, 8);
        risked("the WANT is no matter then", x, 3, 0, 30, 1);
        x.want(1, 0, 5);
        risked("5 of the other one", x, 3, 0, 180, 1);
        due("COST is as without doubts", 130, () -> x.least(3) - 80);
    }

    private static void doubtsByThemselves() {
        CoalStreet x = told("late 1;keep 1;", 0, 0);
        x.doubt(0, 0, 1);
        x.doubt(0, 8, 2);
        risked("8 with two of three", x, 1, 0, 16, 3);
        x.doubt(1, 0, 3);
        x.doubt(1, 3, 1);
        risked("3 with one of four", x, 2, 0, 3, 4);
        risked("both", x, 3, 0, 73, 12);
        x.doubt(1, 3, 5);
        risked("3 told twice: six of nine", x, 2, 0, 2, 1);
        x.doubt(1, 7, 9);
        risked("the fourth one", x, 2, 0, 9, 2);
    }

    // ---- promise 32: "RISK of a set that buys q (0 to 8 times its HOUSEHOLDS) is the FRACTION: true; false if q can't be
    // bought (the FRACTION stays). IllegalArgumentException: also q."

    private static void riskSets() {
        Twins.noSets("risk", (x, set) -> x.risk(set, 0));
        Twins.wrongSets("risk of a wrong number", (x, set) -> x.risk(set, -1));
        for (int n = 1; n <= 7; n++) {
            int[] wants = new int[n];
            Twins.noSets("risk", n, () -> told("step 1 1;", wants), (x, set) -> x.risk(set, 8));
        }
    }

    private static void riskNumbers() {
        for (int set = 1; set <= 127; set += set < 8 ? 1 : 17) {
            int some = set;
            int most = 8 * Integer.bitCount(set);
            Supplier<CoalStreet> maker = () -> doubting(2);
            CoalStreet x = doubting(2);
            due("risk of 0 sacks of " + set, true, () -> x.risk(some, 0));
            due("risk of " + most + " sacks of " + set, true, () -> x.risk(some, most));
            for (int q : new int[] {-1, most + 1, most + 8, 57, SMALL, BIG}) {
                Twins.stays("risk of " + q + " sacks of " + set, IAE, maker, y -> y.risk(some, q));
            }
        }
    }

    private static void riskThatCanNotBe() {
        Supplier<CoalStreet> maker = () -> {
            CoalStreet x = told("step 3 10;late 7;", 4, 4);
            x.risk(3, 4);
            return x;
        };
        for (int q = 1; q <= 2; q++) {
            int sacks = q;
            Twins.stays("just from 3 sacks on: " + q, false, maker, x -> x.risk(1, sacks));
            Twins.stays("just from 3 sacks on: " + q, false, maker, x -> x.risk(3, sacks));
        }
        risked("3 can be", maker.get(), 1, 3, 37, 1);
        risked("0 can be", maker.get(), 1, 0, 28, 1);
        for (int q = 1; q <= 8; q++) {
            int sacks = q;
            due("without steps", false, () -> told("late 7;", 4).risk(1, sacks));
            due("without any FRACTION", 0, () -> {
                CoalStreet x = told("late 7;", 4);
                x.risk(1, sacks);
                return x.lower();
            });
        }
        risked("without steps 0 can be", told("late 7;", 4), 1, 0, 28, 1);
    }

    /** "late for each sack that is wanted more, keep for each that is left" */
    private static void riskLateAndKeep() {
        CoalStreet x = told("step 1 10;late 100;keep 3;", 4);
        int[] due = {400, 310, 220, 130, 40, 53, 66, 79, 92};
        for (int q = 0; q <= 8; q++) {
            risked("4 for sure, " + q + " bought", x, 1, q, due[q], 1);
        }
    }

    /** "(CELLARS, gather, HOLDERS aside)" */
    private static void riskAsides() {
        CoalStreet x = new CoalStreet();
        for (int i = 0; i < 3; i++) {
            x.house(0);
            x.want(i, 0, 1);
        }
        Streets.tell(x, "step 1 10;gather 99;keep 2;");
        risked("without CELLARS, HOLDER and gather", x, 7, 24, 240 + 42, 1);
        x.bar(0, 1);
        risked("the same of BARRED ones", x, 7, 24, 240 + 42, 1);
    }

    private static void riskInTheFirstMonth() {
        CoalStreet x = told("step 1 10;cart 4 3;rise 0 7;rise 1 90;months 2;", 2);
        x.want(0, 1, 8);
        risked("8 in MONTH 0", x, 1, 8, 80 + 6 + 56, 1);
        CoalStreet y = told("step 5 10;step 8 1;", 2);
        due("6 can be", true, () -> y.risk(1, 6));
        risked("8 in one", y, 1, 8, 8, 1);
    }

    private static void riskGreatest() {
        CoalStreet x = told("step 1 99;rise 0 99;cart 1 99;late 999;keep 99;", new int[7]);
        for (int i = 0; i < 28; i++) {
            x.doubt(i / 4, i % 4 == 0 ? 0 : 8, 9);
        }
        // In the mean 6 each.
        risked("none bought", x, 127, 0, 42 * 999, 1);
        // In the mean 14 are left.
        risked("all bought", x, 127, 56, 56 * 297 + 14 * 99, 1);
        CoalStreet y = told("late 1;", new int[7]);
        for (int i = 0; i < 7; i++) {
            y.doubt(i, 1, 1);
            y.doubt(i, 0, 6);
        }
        risked("sevenths", y, 127, 0, 1, 1);
        risked("a seventh", y, 1, 0, 1, 7);
        CoalStreet z = told("late 1;step 1 1;", new int[7]);
        for (int i = 0; i < 7; i++) {
            z.doubt(i, 1, 9);
            z.doubt(i, 0, 8);
            z.doubt(i, 0, 9);
            z.doubt(i, 0, 9);
        }
        // None is missing unless all seven want one: 9 to the seventh over 35 to the seventh, and 6 bought.
        risked("the least chance", z, 127, 6, 6L * 64339296875L + 4782969L, 64339296875L);
    }

    // ---- promise 33: "BEFORE of a set; its RISK is the FRACTION." "the q (0 to 8 times HOUSEHOLDS) with the least RISK,
    // of like ones the least"

    private static void before(String what, CoalStreet x, int set, int q, long upper, long lower) {
        due(what, q, () -> x.before(set));
        Check.same(what + ": its RISK", upper + "/" + lower, x.upper() + "/" + x.lower());
    }

    private static void beforeSets() {
        Twins.noSets("before", CoalStreet::before);
        for (int n = 1; n <= 7; n++) {
            int[] wants = new int[n];
            Twins.noSets("before", n, () -> told("", wants), CoalStreet::before);
        }
    }

    private static void beforeLeastOfLike() {
        before("a sack costs as much as late", told("step 1 10;late 10;", 8), 1, 0, 80, 1);
        before("a sack costs less than late", told("step 1 10;late 11;", 8), 1, 8, 80, 1);
        before("a sack costs more than late", told("step 1 11;late 10;", 8), 1, 0, 80, 1);
        before("nothing costs anything", told("", 8), 1, 0, 0, 1);
        // None 30, 3 at 5 are 15, 6 at 2 are 12.
        before("3 and 6 as by steps", told("step 3 5;step 6 2;late 10;", 3), 1, 6, 12, 1);
        before("3 of like ones", told("step 3 4;step 6 2;late 10;", 3), 1, 3, 12, 1);
        CoalStreet x = told("step 1 10;late 20;", 0);
        x.doubt(0, 2, 1);
        x.doubt(0, 6, 1);
        // Up to 2 each sack spares 10; from 3 to 6 it spares 20 with half a chance: nothing.
        before("half a chance", x, 1, 2, 60, 1);
    }

    private static void beforeFirstAndLast() {
        before("nothing is wanted", told("step 1 1;late 999;", 0, 0), 3, 0, 0, 1);
        before("all is wanted of one", told("step 1 1;late 999;", 8), 1, 8, 8, 1);
        before("all is wanted of seven", told("step 1 1;late 999;", 8, 8, 8, 8, 8, 8, 8), 127, 56, 56, 1);
        before("all is wanted of the last", told("step 1 1;late 999;", 0, 0, 0, 0, 0, 0, 8), 64, 8, 8, 1);
        // 7 are left, but 1 that is late would cost far more.
        before("the last q is the least", told("step 8 1;late 999;", 1), 1, 8, 8, 1);
        before("more than that can't be bought", told("step 9 1;late 999;", 1), 1, 0, 999, 1);
        before("of two it can", told("step 9 1;late 999;", 1, 0), 3, 9, 9, 1);
        before("the last one of two", told("step 16 1;late 999;", 1, 0), 3, 16, 16, 1);
    }

    /** Each q from the first to the last can be the one. */
    private static void beforeEachNumber() {
        for (int want = 0; want <= 8; want++) {
            CoalStreet x = told("step 1 2;late 3;keep 1;", want, 8);
            before("as many as are wanted", x, 1, want, 2 * want, 1);
            before("as many as both want", x, 3, want + 8, 2 * want + 16, 1);
        }
    }

    private static void beforeInTheFirstMonth() {
        before("the rise of MONTH 0", told("step 1 2;rise 0 5;late 7;", 3), 1, 0, 21, 1);
        before("less than late with the rise", told("step 1 2;rise 0 5;rise 1 99;late 8;months 2;", 3), 1, 3, 21, 1);
        before("the rise of another MONTH", told("step 1 2;rise 1 99;rise 5 99;late 7;months 6;", 3), 1, 3, 6, 1);
    }

    private static void beforeSkipsWhatCanNotBe() {
        before("without steps", told("late 7;", 4, 4), 3, 0, 56, 1);
        before("2 can't be", told("step 3 1;late 7;keep 2;", 2), 1, 3, 5, 1);
        before("2 can't be, and 3 is dear", told("step 3 5;late 7;", 2), 1, 0, 14, 1);
    }

    // ---- promise 34: "MOST of a SELLER for a set of 1 to 4, with p (2 to 20) and k (0 to 20), what 0: n, 1: r, 2: GAIN,
    // 3: GAIN of p alone (from 1 on); .. IllegalArgumentException: the set, p, k, another what."

    private static void sellerSets() {
        Twins.wrongSets("seller", (x, set) -> x.seller(set, 3, 1, 3));
        for (int n = 1; n <= 7; n++) {
            int[] wants = new int[n];
            Supplier<CoalStreet> maker = () -> Streets.trusting(wants);
            Twins.wrongSets("seller", n, maker, (x, set) -> x.seller(set, 2, 0, 0));
            for (int set = 1; set < 1 << n; set++) {
                int some = set;
                if (Integer.bitCount(set) > 4) {
                    Twins.stays("seller for " + set, IAE, maker, x -> x.seller(some, 2, 0, 0));
                } else if (n == 7 || set == (1 << n) - 1) {
                    due("seller for " + set, 0, () -> maker.get().seller(some, 2, 0, 2));
                }
            }
        }
    }

    private static CoalStreet buyers() {
        return told("step 1 50;", 1, 1, 3, 1, 1);
    }

    private static void sellerPrice() {
        for (int p = 2; p <= 20; p++) {
            int price = p;
            due("p " + p, 3 * price, () -> buyers().seller(4, price, 0, 3));
        }
        for (int p : new int[] {1, 0, -1, 21, 22, 256 + 2, SMALL, BIG}) {
            Twins.stays("p " + p, IAE, x -> x.seller(1, p, 1, 0));
        }
    }

    private static void sellerCost() {
        for (int k = 0; k <= 20; k++) {
            int coins = k;
            due("k " + k, 30 - 3 * coins, () -> buyers().seller(4, 10, coins, 3));
        }
        for (int k : new int[] {-1, 21, 22, 256, SMALL, BIG}) {
            Twins.stays("k " + k, IAE, x -> x.seller(1, 2, k, 0));
        }
    }

    private static void sellerWhat() {
        // Each step that is reached lowers what 3 sacks cost: the first one that isn't is from 4 on.
        int[] due = {4, 1, 30, 30};
        for (int what = 0; what <= 3; what++) {
            int w = what;
            due("what " + what, due[what], () -> buyers().seller(4, 10, 0, w));
        }
        for (int what : new int[] {-1, 4, 5, 256, SMALL, BIG}) {
            Twins.stays("what " + what, IAE, x -> x.seller(1, 2, 1, what));
        }
    }

    private static void sellerThrowsInOrder() {
        Twins.stays("all is wrong", IAE, x -> x.seller(0, 1, -1, 4));
        Twins.stays("just what is wrong", IAE, x -> x.seller(15, 20, 20, 4));
        Twins.taken("nothing is wrong", Twins::rich, x -> x.seller(15, 20, 20, 3));
        Twins.taken("nothing is wrong", Twins::rich, x -> x.seller(16, 2, 0, 0));
    }

    /** "makes instead of all steps: from 1 on p, from n (2 to 12) on r (1 to p less 1)": all else stays. */
    private static void sellerInsteadOfAllSteps() {
        CoalStreet x = told("step 1 1;step 2 99;step 3 1;step 4 99;step 5 2;step 6 9;", 2, 2);
        due("p alone", 40, () -> x.seller(3, 10, 0, 3));
        due("the steps are as told then", 1, () -> x.price(1));
        due("the steps are as told then", 6, () -> x.count(1));
        Streets.tell(x, "cart 4 3;gather 2;");
        due("carts and gathering", 45, () -> x.seller(3, 10, 0, 3));
        due("without steps there are none then", -1, () -> x.price(1));
        CoalStreet y = told("above;", 5);
        // Above: each n to 5 spares something; 6 doesn't.
        due("above: the step isn't reached", 6, () -> y.seller(1, 10, 0, 0));
        due("above: GAIN", 50, () -> y.seller(1, 10, 0, 2));
        CoalStreet z = told("months 2;rise 0 3;rise 1 4;", 2);
        z.want(0, 1, 1);
        due("months and rises", 30 + 6 + 4, () -> z.seller(1, 10, 0, 3));
    }

    /** "of like ones the least n, then r" */
    private static void sellerLeastOfLike() {
        for (int want = 0; want <= 8; want++) {
            CoalStreet x = told("", want);
            int n = Math.max(2, want + 1);
            due("the first step that isn't reached by " + want, n, () -> x.seller(1, 20, 0, 0));
            due("its least r", 1, () -> x.seller(1, 20, 0, 1));
            int gain = 20 * want;
            due("GAIN", gain, () -> x.seller(1, 20, 0, 2));
            due("GAIN of p alone", gain, () -> x.seller(1, 20, 0, 3));
        }
    }

    private static void sellerFirstAndLastN() {
        CoalStreet x = told("", 8, 3);
        due("from 12 on", 12, () -> x.seller(3, 10, 0, 0));
        due("r", 1, () -> x.seller(3, 10, 0, 1));
        due("11 at 10", 110, () -> x.seller(3, 10, 0, 2));
        CoalStreet y = told("", 8, 4);
        // All steps are reached by 12 together, from 2 on as well as from 12 on.
        due("all n are reached", 2, () -> y.seller(3, 10, 0, 0));
        due("p less 1", 9, () -> y.seller(3, 10, 0, 1));
        due("12 at 9", 108, () -> y.seller(3, 10, 0, 2));
        due("12 at 10", 120, () -> y.seller(3, 10, 0, 3));
        CoalStreet z = told("gather 12;", 8, 4);
        // From 8 on 9: 72 and 40 apart; from 9 on 9: 108 and 12 together, as much as apart.
        due("from 9 on nobody alone reaches it", 9, () -> z.seller(3, 10, 0, 0));
        due("r", 9, () -> z.seller(3, 10, 0, 1));
        due("GAIN", 120, () -> z.seller(3, 10, 0, 2));
    }

    private static void sellerFirstAndLastR() {
        CoalStreet x = told("", 2);
        due("p 2: n", 3, () -> x.seller(1, 2, 0, 0));
        due("p 2: r is 1", 1, () -> x.seller(1, 2, 0, 1));
        CoalStreet y = told("", 8, 8);
        due("p 2: 16 at 1", 16, () -> y.seller(3, 2, 0, 2));
        due("p 20: 16 at 19", 304, () -> y.seller(3, 20, 0, 2));
        due("p 20: r", 19, () -> y.seller(3, 20, 0, 1));
        due("p 20: n", 2, () -> y.seller(3, 20, 0, 0));
    }

    /** "TOTAL of a set less k for each sack in THE PLANS of its GROUPS" */
    private static void sellerGain() {
        CoalStreet x = told("gather 5;", 1, 2, 3);
        due("three alone", 60 - 6 * 4, () -> x.seller(7, 10, 4, 3));
        Streets.tell(x, "cart 6 9;gather 5;");
        due("three in one cart", 60 + 9 + 10 - 6 * 4, () -> x.seller(7, 10, 4, 3));
        Streets.tell(x, "");
        x.cellar(2, 8);
        due("with a cellar", 60 - 6 * 4, () -> x.seller(7, 10, 4, 3));
        CoalStreet y = told("", 5);
        y.cellar(0, 1);
        // From 6 on 8 it buys 6 for 48, one to keep; from 6 on 9 these are 54: then it buys 5 for 50.
        due("n", 6, () -> y.seller(1, 10, 0, 0));
        due("r", 9, () -> y.seller(1, 10, 0, 1));
        due("5 at 10", 50, () -> y.seller(1, 10, 0, 2));
        CoalStreet z = told("", 6);
        z.cellar(0, 4);
        // From 9 on 6 the six cost 54 for 9: each sack costs 9 more, so no plan is of more sacks than 6.
        due("6 at 10, less 9 each", 6, () -> z.seller(1, 10, 9, 2));
        CoalStreet w = told("", 8, 3);
        w.cellar(1, 8);
        // 11 are wanted: from 12 on 1 they buy 12 for 12, from less on 11 for 11.
        due("a sack more is sold: n", 12, () -> w.seller(3, 2, 0, 0));
        due("a sack more is sold: GAIN", 12, () -> w.seller(3, 2, 0, 2));
        due("a sack more gains nothing: n", 2, () -> w.seller(3, 2, 1, 0));
        due("a sack more gains nothing: GAIN", 0, () -> w.seller(3, 2, 1, 2));
        due("a sack more is a loss: n", 2, () -> w.seller(3, 2, 2, 0));
        due("a sack more is a loss: GAIN", -11, () -> w.seller(3, 2, 2, 2));
    }

    private static void sellerLosses() {
        CoalStreet x = told("", 8, 8, 8, 8);
        // 32 sacks at 1, as each step is reached; by p alone at 2.
        due("the least loss", 32 - 640, () -> x.seller(15, 2, 20, 2));
        due("p alone", 64 - 640, () -> x.seller(15, 2, 20, 3));
        CoalStreet y = told("", 0);
        due("nothing is sold", 0, () -> y.seller(1, 2, 20, 2));
        due("nothing is sold: n", 2, () -> y.seller(1, 2, 20, 0));
        due("nothing is sold: r", 1, () -> y.seller(1, 2, 20, 1));
    }

    /** What was asked before is no matter, and what changes since is seen. */
    private static void sellerAgain() {
        CoalStreet x = told("", 1, 2, 3);
        x.image(0);
        for (int what = 0; what < 4; what++) {
            int w = what;
            int[][] due = {{7, 1, 60, 60}, {7, 1, 120, 120}, {7, 1, 54, 54}, {4, 1, 30, 30}};
            due("a set", due[0][w], () -> x.seller(7, 10, 0, w));
            due("another p", due[1][w], () -> x.seller(7, 20, 0, w));
            due("another k", due[2][w], () -> x.seller(7, 10, 1, w));
            due("another set", due[3][w], () -> x.seller(3, 10, 0, w));
        }
        x.want(2, 0, 0);
        due("a want", 30, () -> x.seller(7, 10, 0, 3));
        x.restore(0);
        due("an image", 60, () -> x.seller(7, 10, 0, 3));
        Streets.tell(x, "rise 0 1;");
        due("a text", 66, () -> x.seller(7, 10, 0, 3));
        Streets.tell(x, "cart 9 6;");
        due("a cart", 66, () -> x.seller(7, 10, 0, 3));
        x.bar(0, 1);
        due("a bar", 72, () -> x.seller(7, 10, 0, 3));
        x.trust(0, 2, false);
        x.trust(2, 0, false);
        due("trust", 72, () -> x.seller(7, 10, 0, 3));
        x.trust(1, 2, false);
        x.trust(2, 1, false);
        due("less trust", 78, () -> x.seller(7, 10, 0, 3));
        Twins.lay(x, 0, 0, 0);
        x.take(0, 2);
        due("a tray", 42, () -> x.seller(7, 10, 0, 3));
        CoalStreet y = told("", 5);
        due("r without a cellar", 1, () -> y.seller(1, 2, 0, 1));
        due("n without a cellar", 6, () -> y.seller(1, 2, 0, 0));
        y.cellar(0, 8);
        due("n with a cellar", 10, () -> y.seller(1, 2, 0, 0));
    }
}
