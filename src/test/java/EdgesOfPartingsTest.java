import java.util.function.Supplier;

/** The edges that promises 20 to 30 name, and the terms of PAY, PARTING, SHARES, WEIGHTS and RULE: each by itself. */
public final class EdgesOfPartingsTest {
    private static final String NSE = Twins.NSE;
    private static final String IAE = Twins.IAE;
    private static final String ISE = Twins.ISE;
    private static final int BIG = Twins.BIG;
    private static final int SMALL = Twins.SMALL;

    private EdgesOfPartingsTest() {
    }

    public static void main(String[] args) {
        fractionWithoutAny();
        fractionByLeastNumbers();
        fractionOfNothing();
        fractionIsTheLatest();
        fractionStaysWhereNoneIsTold();
        fractionStaysWhereACallThrows();
        payHouseholds();
        payNumbers();
        payWas();
        byNumbers();
        byWas();
        judgeSets();
        judgeTotal();
        judgeLeaves();
        judgeFirstSet();
        judgeOverD();
        judgeGreatest();
        judgeWithoutTotal();
        canSets();
        canWithoutTotal();
        canMissing();
        canNothingMissing();
        canSetsWithCosts();
        shareSets();
        shareHouseholds();
        shareWithoutParting();
        shareLeastAndGreatest();
        shareOfFive();
        rowSets();
        rowHouseholds();
        rowWithoutParting();
        rowOneByOne();
        proofTrays();
        proofSets();
        proofLowerNumber();
        proofThrowsInOrder();
        proofEndsBehindASet();
        proofEmpty();
        proofLongest();
        proofSetsThatAreNone();
        proofSetsOfOthers();
        proofSetsWithoutCost();
        proofNumbers();
        proofCovers();
        proofCostsLess();
        ruledSets();
        ruledHouseholds();
        ruledParts();
        ruledAlone();
        ruledAllNothing();
        ruledWithoutTotal();
        keepsFirstSet();
        keepsAsMuchIsNotAbove();
        keepsThrows();
        Check.end();
    }

    private static void due(String what, Object want, Check.Call call) {
        Check.due(what, want, call);
    }

    private static void fraction(String what, CoalStreet x, long upper, long lower) {
        Check.same(what + " as a FRACTION", upper + "/" + lower, x.upper() + "/" + x.lower());
    }

    private static CoalStreet told(String text, int... wants) {
        CoalStreet x = Streets.trusting(wants);
        Streets.tell(x, text);
        return x;
    }

    /** One pays 10, two 13, three 20, four 26, five 33: each two would rather leave a third one. */
    private static CoalStreet pairs(int n) {
        int[] wants = new int[n];
        for (int i = 0; i < n; i++) {
            wants[i] = 1;
        }
        return told("step 1 10;step 2 6;gather 1;step 3 7;rule alike;", wants);
    }

    // ---- promises 20 and 21: "The upper number of the latest FRACTION, by least numbers; 0 without any." "Its lower
    // number, 1 or more; 0 without any."

    private static void fractionWithoutAny() {
        CoalStreet x = new CoalStreet();
        fraction("none of a new one", x, 0, 0);
        CoalStreet y = pairs(3);
        y.judge(7);
        y.keeps(7);
        y.proof(0, 7, 1);
        fraction("none yet", y, 0, 0);
        due("a call that throws", IAE, () -> y.can(1));
        fraction("none yet", y, 0, 0);
    }

    private static void fractionByLeastNumbers() {
        CoalStreet x = told("step 1 12;rule alike;", 1, 1, 1, 1, 1, 1);
        for (int n = 1; n <= 6; n++) {
            x.ruled((1 << n) - 1, 0);
            fraction("12 times " + n + " over " + n, x, 12, 1);
        }
        CoalStreet y = told("step 1 1;rule alike;", 1, 8, 1, 8, 8, 8, 8);
        int[][] alike = {{1, 1}, {9, 2}, {10, 3}, {9, 2}, {26, 5}, {17, 3}, {6, 1}};
        for (int i = 0; i < alike.length; i++) {
            y.ruled((2 << i) - 1, 0);
            fraction("alike of " + (i + 1), y, alike[i][0], alike[i][1]);
        }
    }

    private static void fractionOfNothing() {
        CoalStreet x = told("rule alike;", 0, 0, 0);
        x.ruled(7, 2);
        fraction("0 of three", x, 0, 1);
        x.can(7);
        fraction("nothing is missing", x, 0, 1);
        x.share(7, 0, true);
        fraction("nothing is shared", x, 0, 1);
        x.risk(7, 0);
        fraction("nothing is risked", x, 0, 1);
    }

    private static void fractionIsTheLatest() {
        CoalStreet x = told("step 1 10;step 5 8;late 3;rule alike;", 3, 4);
        x.can(3);
        fraction("can", x, 0, 1);
        x.share(3, 0, false);
        fraction("share least", x, 16, 1);
        x.share(3, 0, true);
        fraction("share most", x, 30, 1);
        x.row(3, 1);
        fraction("row", x, 40, 1);
        x.ruled(3, 1);
        fraction("ruled", x, 28, 1);
        x.risk(3, 0);
        fraction("risk", x, 21, 1);
        x.before(1);
        fraction("before", x, 9, 1);
        x.can(3);
        fraction("can again", x, 0, 1);
    }

    private static void fractionStaysWhereNoneIsTold() {
        CoalStreet x = told("step 2 11;rule alike;", 3, 2);
        x.ruled(3, 0);
        fraction("ruled", x, 55, 2);
        x.judge(3);
        x.keeps(3);
        x.proof(0, 3, 2);
        x.least(3);
        x.seller(3, 2, 1, 2);
        x.pay(0, 1);
        x.by(7);
        x.image(0);
        x.restore(0);
        Streets.tell(x, "step 2 3;");
        due("a risk that can't be", false, () -> x.risk(3, 1));
        fraction("as it was", x, 55, 2);
    }

    private static void fractionStaysWhereACallThrows() {
        Twins.Use[] uses = {x -> x.can(1), x -> x.can(32), Twins.act(x -> x.share(3, 2, true)),
            Twins.act(x -> x.row(3, 2)), Twins.act(x -> x.ruled(3, 2)), x -> x.risk(1, 9), x -> x.before(0)};
        for (Twins.Use use : uses) {
            Twins.stays("a call that throws", IAE, use);
        }
    }

    // ---- promise 22: "PAY of a HOUSEHOLD: what it was. IllegalArgumentException: the number." "0 to 100,000"

    private static void payHouseholds() {
        Twins.noHouses("pay", NSE, (x, h) -> x.pay(h, 1));
        Twins.noHouses("pay of a wrong number", NSE, (x, h) -> x.pay(h, -1));
        due("pay of the first", 17, () -> Twins.rich().pay(0, 1));
        due("pay of the last", 100000, () -> Twins.rich().pay(4, 1));
    }

    private static void payNumbers() {
        CoalStreet x = pairs(2);
        due("pay 100,000", 0, () -> x.pay(1, 100000));
        due("pay 0", 100000, () -> x.pay(1, 0));
        due("it was 0", 0, () -> x.pay(1, 99999));
        due("it was 99,999", 99999, () -> x.pay(1, 1));
        for (int v : new int[] {-1, 100001, 1 << 20, SMALL, BIG}) {
            Twins.stays("pay " + v, IAE, y -> y.pay(0, v));
            Twins.stays("pay " + v, IAE, y -> y.pay(4, v));
        }
    }

    private static void payWas() {
        CoalStreet x = pairs(7);
        for (int round = 0; round < 3; round++) {
            int was = round;
            for (int i = 0; i < 7; i++) {
                int h = i;
                due("what " + i + " paid", was == 0 ? 0 : 1000 * i + was, () -> x.pay(h, 1000 * h + was + 1));
            }
        }
    }

    // ---- promise 23: "D: what it was. IllegalArgumentException: the number." "D (1 to 1000)"

    private static void byNumbers() {
        due("by(1)", 3, () -> Twins.rich().by(1));
        due("by(1000)", 3, () -> Twins.rich().by(1000));
        for (int d : new int[] {0, -1, 1001, 1024, SMALL, BIG}) {
            Twins.stays("by(" + d + ")", IAE, x -> x.by(d));
        }
    }

    private static void byWas() {
        CoalStreet x = new CoalStreet();
        due("D at first", 1, () -> x.by(1000));
        due("D then", 1000, () -> x.by(999));
        due("D then", 999, () -> x.by(1));
        due("D then", 1, () -> x.by(2));
    }

    // ---- promise 24: "JUDGED for a set. IllegalStateException: it has no TOTAL." "-2 if all PAY of it isn't TOTAL; else
    // the first set of its HOUSEHOLDS (by its number) that LEAVES; -1 if none does."

    private static void judgeSets() {
        Twins.noSets("judge", CoalStreet::judge);
        for (int n = 1; n <= 7; n++) {
            int many = n;
            Twins.noSets("judge", n, () -> pairs(many), CoalStreet::judge);
        }
    }

    private static void pays(CoalStreet x, int... coins) {
        for (int i = 0; i < coins.length; i++) {
            x.pay(i, coins[i]);
        }
    }

    private static void judgeTotal() {
        CoalStreet x = pairs(3);
        pays(x, 10, 10, 3);
        due("all 23 are paid, but two pay more than 13", 3, () -> x.judge(7));
        pays(x, 10, 10, 2);
        due("one coin less", -2, () -> x.judge(7));
        pays(x, 10, 10, 4);
        due("one coin more", -2, () -> x.judge(7));
        pays(x, 9, 4, 100);
        due("what others pay is no matter", -1, () -> x.judge(3));
        due("of one the TOTAL is its COST", -2, () -> x.judge(1));
        x.pay(0, 10);
        due("of one that pays it", -1, () -> x.judge(1));
        CoalStreet y = told("", 0);
        due("nothing is paid for nothing", -1, () -> y.judge(1));
        y.pay(0, 1);
        due("something is paid for nothing", -2, () -> y.judge(1));
    }

    /** "A set LEAVES, if it has a COST, and what it pays is above that." */
    private static void judgeLeaves() {
        CoalStreet x = told("step 1 10;step 2 6;", 1, 1);
        pays(x, 10, 2);
        due("as much isn't above", -1, () -> x.judge(3));
        pays(x, 11, 1);
        due("one coin above", 1, () -> x.judge(3));
        pays(x, 1, 11);
        due("one coin above", 2, () -> x.judge(3));
        pays(x, 2, 10);
        due("as much isn't above", -1, () -> x.judge(3));
        Streets.tell(x, "step 2 6;");
        pays(x, 12, 0);
        due("without COST none leaves", -1, () -> x.judge(3));
    }

    /** "the first set of its HOUSEHOLDS (by its number)" */
    private static void judgeFirstSet() {
        CoalStreet x = pairs(4);
        pays(x, 0, 11, 11, 4);
        due("2, 4, 6 and others leave", 2, () -> x.judge(15));
        pays(x, 9, 1, 8, 8);
        due("5, 9, 12 and others leave", 5, () -> x.judge(15));
        pays(x, 0, 0, 13, 13);
        due("of 4, 8, 12 and others the first", 4, () -> x.judge(15));
        pays(x, 6, 6, 7, 7);
        due("the last two leave", 12, () -> x.judge(15));
        pays(x, 0, 9, 9, 100);
        due("of 1 and 2 both together leave", -2, () -> x.judge(6));
        pays(x, 100, 9, 4, 100);
        due("of 1 and 2 none leaves, whatever others pay", -1, () -> x.judge(6));
    }

    private static void judgeOverD() {
        CoalStreet x = pairs(2);
        x.by(2);
        pays(x, 13, 13);
        due("13 halves each", -1, () -> x.judge(3));
        pays(x, 20, 6);
        due("10 coins isn't above", -1, () -> x.judge(3));
        pays(x, 21, 5);
        due("10 and a half is", 1, () -> x.judge(3));
        pays(x, 13, 14);
        due("half a coin more in all", -2, () -> x.judge(3));
        pays(x, 13, 12);
        due("half a coin less in all", -2, () -> x.judge(3));
        x.by(1000);
        pays(x, 10000, 3000);
        due("thousandths", -1, () -> x.judge(3));
        pays(x, 10001, 2999);
        due("a thousandth above", 1, () -> x.judge(3));
    }

    private static void judgeGreatest() {
        CoalStreet x = told("step 1 99;", 8, 8, 8, 8, 8, 8, 8);
        x.by(126);
        // 5544 coins over 126: 99,792 each.
        for (int i = 0; i < 7; i++) {
            x.pay(i, 99792);
        }
        due("all is paid", -1, () -> x.judge(127));
        x.pay(0, 99793);
        x.pay(6, 99791);
        due("the first one pays a little more", 1, () -> x.judge(127));
        for (int i = 0; i < 7; i++) {
            x.pay(i, 100000);
        }
        due("the most is too much", -2, () -> x.judge(127));
        x.by(1000);
        due("over 1000 it is too little", -2, () -> x.judge(127));
        x.by(1);
        due("over 1 it is far too much", -2, () -> x.judge(127));
    }

    private static void judgeWithoutTotal() {
        Supplier<CoalStreet> maker = () -> told("step 3 1;", 1, 1, 1);
        for (int set = 1; set < 7; set++) {
            int some = set;
            Twins.stays("judge without TOTAL", ISE, maker, x -> x.judge(some));
        }
        due("with one", -2, () -> maker.get().judge(7));
        Twins.wrongSets("judge without TOTAL", 3, () -> told("", 1, 1, 1), CoalStreet::judge);
        Twins.wrongSets("keeps without TOTAL", 3, () -> told("", 1, 1, 1), CoalStreet::keeps);
        Twins.wrongSets("ruled without TOTAL", 3, () -> told("", 1, 1, 1), (x, set) -> ruled(x, set, 0));
    }

    // ---- promise 25: "Whether a PARTING of a set HOLDS; MISSING is the FRACTION. IllegalArgumentException: also if it
    // isn't of 2 to 5; IllegalStateException: it has no TOTAL."

    /** What is refused by can(), share(), row() and proof() alike. */
    private static void fewOnly(String call, Twins.UseOf use) {
        Twins.wrongSets(call, use);
        for (int n = 1; n <= 7; n++) {
            int many = n;
            Supplier<CoalStreet> maker = () -> told("step 1 10;", new int[many]);
            Twins.wrongSets(call, n, maker, use);
            int all = (1 << n) - 1;
            for (int set = 1; set <= all; set++) {
                int some = set;
                int of = Integer.bitCount(set);
                if (of < 2 || of > 5) {
                    Twins.stays(call + " of the " + of + " of " + set, IAE, maker, x -> use.of(x, some));
                } else {
                    Twins.taken(call + " of the " + of + " of " + set, maker, x -> use.of(x, some));
                }
            }
            Twins.Use first = x -> use.of(x, 1);
            Twins.stays(call + " of one without TOTAL", IAE, () -> told("", 1, 1), first);
        }
        Twins.stays(call + " of six without TOTAL", IAE, () -> told("", 1, 1, 1, 1, 1, 1), x -> use.of(x, 63));
        Twins.stays(call + " of two without TOTAL", ISE, () -> told("", 1, 1, 1), x -> use.of(x, 6));
        Twins.stays(call + " of five without TOTAL", ISE, () -> told("step 6 1;", 1, 1, 1, 1, 1), x -> use.of(x, 31));
    }

    private static int leastOf(int set) {
        return Integer.numberOfTrailingZeros(set);
    }

    private static int greatestOf(int set) {
        return 31 - Integer.numberOfLeadingZeros(set);
    }

    private static void canSets() {
        fewOnly("can", CoalStreet::can);
    }

    private static void canWithoutTotal() {
        Twins.stays("can without TOTAL", ISE, () -> {
            CoalStreet x = pairs(3);
            x.can(7);
            Streets.tell(x, "");
            return x;
        }, x -> x.can(7));
    }

    /** "TOTAL less the most that fractions (0 or more) can be together by which no set of them LEAVES" */
    private static void canMissing() {
        CoalStreet x = pairs(5);
        due("can of two", true, () -> x.can(3));
        fraction("of two nothing is missing", x, 0, 1);
        due("can of three", false, () -> x.can(7));
        fraction("23 less 19 and a half", x, 7, 2);
        due("can of four", true, () -> x.can(15));
        fraction("of four nothing is missing", x, 0, 1);
        due("can of five", false, () -> x.can(31));
        fraction("36 less 32 and a half", x, 7, 2);
        // Alone 1 and 8, together 9 and 2: they are apart, and nothing is missing.
        CoalStreet y = told("step 1 1;gather 2;", 1, 8);
        due("apart", true, () -> y.can(3));
        fraction("nothing is missing", y, 0, 1);
        CoalStreet z = told("step 2 5;", 1, 1, 1, 1);
        due("two and two, or four", true, () -> z.can(15));
        fraction("nothing is missing", z, 0, 1);
        CoalStreet w = told("step 2 10;step 3 9;", 1, 1, 1);
        due("each two pay 20 at most, three 27", true, () -> w.can(7));
        CoalStreet v = told("step 2 5;step 3 9;", 1, 1, 1);
        due("each two pay 10 at most, three 27", false, () -> v.can(7));
        fraction("27 less 15", v, 12, 1);
    }

    private static void canNothingMissing() {
        CoalStreet x = told("step 1 10;step 2 6;", 1, 1, 1);
        due("each pays 6, and no other way", true, () -> x.can(7));
        fraction("just nothing", x, 0, 1);
        Streets.tell(x, "step 1 10;step 2 6;gather 1;");
        due("a bit more", false, () -> x.can(7));
        // 12 and 1 for two, 18 and 2 for three: 20 less 19 and a half.
        fraction("just something", x, 1, 2);
    }

    private static void canSetsWithCosts() {
        CoalStreet x = pairs(3);
        x.bar(0, 1);
        due("two are barred: 13 and 10, each pair 13", true, () -> x.can(7));
        CoalStreet y = pairs(3);
        y.trust(0, 1, false);
        y.trust(1, 0, false);
        due("two are without HOLDER", true, () -> y.can(7));
    }

    // ---- promise 26: "The least (most: the greatest) SHARE of a HOUSEHOLD of a set is the FRACTION.
    // IllegalArgumentException: as for can(), or it isn't in the set; IllegalStateException: no TOTAL, or no PARTING
    // HOLDS."

    private static Object share(CoalStreet x, int set, int house, boolean most) {
        x.share(set, house, most);
        return Twins.NOTHING;
    }

    private static Object row(CoalStreet x, int set, int house) {
        x.row(set, house);
        return Twins.NOTHING;
    }

    private static void shareSets() {
        fewOnly("least share", (x, set) -> share(x, set, leastOf(set), false));
        fewOnly("greatest share", (x, set) -> share(x, set, greatestOf(set), true));
    }

    private static final int[] NOT_IN_FIVE = {-1, 1, 3, 5, 6, 7, 31, 32, 34, 64, SMALL, BIG};

    private static void shareHouseholds() {
        for (int house : NOT_IN_FIVE) {
            Twins.stays("share of " + house + " in 0 and 2", IAE, x -> share(x, 5, house, true));
            Twins.stays("least share of " + house + " in 0 and 2", IAE, x -> share(x, 5, house, false));
            Twins.stays("share of " + house + " in 0 and 2 without TOTAL", IAE, () -> told("", 1, 1, 1),
                    x -> share(x, 5, house, true));
        }
        due("the first of two", Twins.NOTHING, () -> share(Twins.rich(), 5, 0, true));
        due("the last of two", Twins.NOTHING, () -> share(Twins.rich(), 5, 2, true));
        Twins.stays("not in three of whom none holds", IAE, () -> pairs(4), x -> share(x, 7, 3, true));
    }

    private static void shareWithoutParting() {
        for (int house = 0; house < 3; house++) {
            int h = house;
            Supplier<CoalStreet> maker = () -> {
                CoalStreet x = pairs(3);
                x.share(3, 0, true);
                return x;
            };
            Twins.stays("share where none holds", ISE, maker, x -> share(x, 7, h, true));
            Twins.stays("least share where none holds", ISE, maker, x -> share(x, 7, h, false));
        }
    }

    private static void shareOf(CoalStreet x, int set, int house, int least, int most) {
        x.share(set, house, false);
        fraction("least share of " + house, x, least, 1);
        x.share(set, house, true);
        fraction("greatest share of " + house, x, most, 1);
    }

    private static void shareLeastAndGreatest() {
        CoalStreet x = told("step 1 10;step 2 6;", 1, 1, 1);
        for (int h = 0; h < 3; h++) {
            shareOf(x, 7, h, 6, 6);
        }
        // 0 alone 10, 2 alone 80, together 9: what 0 pays isn't below 0, nor what 2 pays.
        CoalStreet y = told("step 1 10;step 9 1;", 1, 0, 8);
        due("total", 9, () -> y.least(5));
        shareOf(y, 5, 0, 0, 9);
        shareOf(y, 5, 2, 0, 9);
        shareOf(y, 7, 1, 0, 0);
        shareOf(y, 3, 0, 10, 10);
        shareOf(y, 3, 1, 0, 0);
        // Alone 30 and 40, together 56.
        CoalStreet z = told("step 1 10;step 5 8;", 3, 4);
        shareOf(z, 3, 0, 16, 30);
        shareOf(z, 3, 1, 26, 40);
        // No cost alone: all that there is, or nothing.
        CoalStreet w = told("step 2 5;", 1, 1);
        shareOf(w, 3, 0, 0, 10);
        shareOf(w, 3, 1, 0, 10);
    }

    private static void shareOfFive() {
        CoalStreet x = told("step 1 10;step 5 4;", 1, 1, 1, 1, 1, 1, 1);
        // All five 20; four 40 and less are 10 each: nobody pays more than 10.
        shareOf(x, 31, 0, 0, 10);
        shareOf(x, 31, 4, 0, 10);
        shareOf(x, 124, 2, 0, 10);
        shareOf(x, 124, 6, 0, 10);
        shareOf(x, 31 ^ 2 ^ 64, 6, 0, 10);
    }

    // ---- promise 27: "What a HOUSEHOLD of a set pays in FIRST ROW is the FRACTION. As for share()."

    private static void rowSets() {
        fewOnly("row of the first", (x, set) -> row(x, set, leastOf(set)));
        fewOnly("row of the last", (x, set) -> row(x, set, greatestOf(set)));
    }

    private static void rowHouseholds() {
        for (int house : NOT_IN_FIVE) {
            Twins.stays("row of " + house + " in 0 and 2", IAE, x -> row(x, 5, house));
            Twins.stays("row of " + house + " in 0 and 2 without TOTAL", IAE, () -> told("", 1, 1, 1),
                    x -> row(x, 5, house));
        }
        due("the first of two", Twins.NOTHING, () -> row(Twins.rich(), 5, 0));
        due("the last of two", Twins.NOTHING, () -> row(Twins.rich(), 5, 2));
        Twins.stays("not in three of whom none holds", IAE, () -> pairs(4), x -> row(x, 7, 3));
    }

    private static void rowWithoutParting() {
        for (int house = 0; house < 3; house++) {
            int h = house;
            Twins.stays("row where none holds", ISE, () -> {
                CoalStreet x = pairs(3);
                x.row(3, 0);
                return x;
            }, x -> row(x, 7, h));
        }
    }

    private static void rowOf(CoalStreet x, int set, int... coins) {
        int at = 0;
        for (int h = 0; h < 7; h++) {
            if ((set >> h & 1) == 1) {
                x.row(set, h);
                fraction("what " + h + " pays in the first row of " + set, x, coins[at], 1);
                at++;
            }
        }
    }

    /** "of these the one in which the least HOUSEHOLD pays least, then the next one, and so on" */
    private static void rowOneByOne() {
        CoalStreet x = told("step 1 10;step 5 4;", 1, 1, 1, 1, 1, 1, 1);
        rowOf(x, 31, 0, 0, 0, 10, 10);
        rowOf(x, 124, 0, 0, 0, 10, 10);
        rowOf(x, 3, 10, 10);
        rowOf(x, 15, 10, 10, 10, 10);
        CoalStreet y = told("step 1 10;step 4 7;", 1, 2, 3, 0);
        // Alone 10, 20, 30; 0 and 2 (or 1 and 2, or all) by sevens: 28, 35, 42.
        rowOf(y, 7, 7, 14, 21);
        rowOf(y, 15, 7, 14, 21, 0);
        CoalStreet z = told("step 1 10;step 6 7;", 1, 2, 3);
        // Just all three: 42. 0 pays nothing, then 1 twelve, as 2 pays 30 at most.
        rowOf(z, 7, 0, 12, 30);
        rowOf(z, 6, 20, 30);
    }

    // ---- promise 28: "Whether WEIGHTS on a TRAY prove that no PARTING of a set HOLDS; false, too, if it ends behind a
    // set, is MISSING, or tells a set that is none of these or has no COST, or a number that isn't 0 to 100,000.
    // NoSuchElementException: no such TRAY; IllegalArgumentException: as for can(), d; IllegalStateException: no TOTAL."

    /** Three of whom each two would rather leave, with one more; on tray 0 each two have 1. */
    private static CoalStreet proving() {
        CoalStreet x = pairs(4);
        Twins.lay(x, 0, 3, 3, 1, 5, 1, 6, 1);
        return x;
    }

    private static void proofTrays() {
        Supplier<CoalStreet> maker = EdgesOfPartingsTest::proving;
        for (int tray : new int[] {-1, 4, 5, 8, SMALL, BIG}) {
            Twins.stays("proof by tray " + tray, NSE, maker, x -> x.proof(tray, 7, 2));
            Twins.stays("proof by tray " + tray, NSE, x -> x.proof(tray, 7, 2));
        }
        for (int tray = 0; tray < 4; tray++) {
            int t = tray;
            CoalStreet x = proving();
            Twins.lay(x, t, 0, 3, 1, 5, 1, 6, 1);
            due("proof by tray " + t, true, () -> x.proof(t, 7, 2));
            due("proof by a tray that is MISSING", false, () -> x.proof(t == 3 ? 2 : 3, 7, 2));
        }
    }

    private static void proofSets() {
        fewOnly("proof by a missing tray", (x, set) -> x.proof(3, set, 1));
        fewOnly("proof over 1000 by the last tray", (x, set) -> x.proof(3, set, 1000));
    }

    private static void proofLowerNumber() {
        Supplier<CoalStreet> maker = EdgesOfPartingsTest::proving;
        due("over 1", false, () -> maker.get().proof(0, 7, 1));
        due("over 2", true, () -> maker.get().proof(0, 7, 2));
        due("over 1000", false, () -> maker.get().proof(0, 7, 1000));
        CoalStreet y = proving();
        Twins.lay(y, 0, 1, 3, 500, 5, 500, 6, 500);
        due("thousandths", true, () -> y.proof(0, 7, 1000));
        due("more than 999 thousandths, too", true, () -> y.proof(0, 7, 999));
        for (int d : new int[] {0, -1, -2, 1001, 1002, SMALL, BIG}) {
            Twins.stays("over " + d, IAE, maker, x -> x.proof(0, 7, d));
            Twins.stays("over " + d + " by a missing tray", IAE, maker, x -> x.proof(3, 7, d));
        }
    }

    private static void proofThrowsInOrder() {
        Supplier<CoalStreet> bare = () -> told("", 1, 1, 1);
        Twins.stays("no tray, no set, no lower number", NSE, bare, x -> x.proof(4, 0, 0));
        Twins.stays("no tray, no lower number", NSE, bare, x -> x.proof(-1, 7, 0));
        Twins.stays("no tray, no TOTAL", NSE, bare, x -> x.proof(4, 7, 1));
        Twins.stays("no set, no lower number", IAE, bare, x -> x.proof(0, 8, 0));
        Twins.stays("of one, no TOTAL", IAE, bare, x -> x.proof(0, 1, 1));
        Twins.stays("no lower number, no TOTAL", IAE, bare, x -> x.proof(0, 7, 0));
        Twins.stays("no lower number, no TOTAL", IAE, bare, x -> x.proof(0, 7, 1001));
        Twins.stays("no TOTAL", ISE, bare, x -> x.proof(0, 7, 1000));
        Twins.stays("no TOTAL", ISE, bare, x -> x.proof(3, 6, 1));
    }

    private static void proofBy(String what, boolean want, int sort, long... numbers) {
        CoalStreet x = proving();
        Twins.lay(x, 1, sort, numbers);
        due(what, want, () -> x.proof(1, 7, 2));
    }

    private static void proofEndsBehindASet() {
        proofBy("it ends behind a number", true, 0, 3, 1, 5, 1, 6, 1);
        proofBy("it ends behind a set", false, 0, 3, 1, 5, 1, 6, 1, 1);
        proofBy("it ends behind the last set", false, 0, 3, 1, 5, 1, 6);
        proofBy("just a set", false, 0, 7);
    }

    private static void proofEmpty() {
        proofBy("an empty tray", false, 0);
        CoalStreet x = told("", 0, 0);
        x.tray(0, 0, 0);
        due("an empty tray where nothing costs", false, () -> x.proof(0, 3, 1));
    }

    private static void proofLongest() {
        long[] forty = new long[40];
        for (int i = 0; i < 40; i += 2) {
            forty[i] = new long[] {3, 5, 6, 1, 2}[i / 2 % 5];
            forty[i + 1] = i / 2 % 5 < 3 ? 250 : 0;
        }
        CoalStreet x = proving();
        Twins.lay(x, 1, 1, forty);
        due("forty numbers over 1000: each pair 1000", false, () -> x.proof(1, 7, 1000));
        forty[39] = 0;
        for (int i = 1; i < 40; i += 2) {
            forty[i] = forty[i] / 2;
        }
        Twins.lay(x, 1, 1, forty);
        due("each pair 500", true, () -> x.proof(1, 7, 1000));
        forty[39] = 100001;
        Twins.lay(x, 1, 3, forty);
        due("the last number is looked at", false, () -> x.proof(1, 7, 1000));
        forty[39] = 0;
        forty[38] = 8;
        Twins.lay(x, 1, 3, forty);
        due("the last set is looked at", false, () -> x.proof(1, 7, 1000));
    }

    private static void proofSetsThatAreNone() {
        for (int set = 1; set <= 7; set++) {
            proofBy("set " + set + " with 0", true, 0, 3, 1, 5, 1, 6, 1, set, 0);
        }
        long[] none = {0, -1, 8, 9, 15, 16, 128, 1L << 31, 1L << 32, 1L << 32 | 3, -8, Long.MIN_VALUE | 3,
            Long.MAX_VALUE, Long.MIN_VALUE};
        for (long set : none) {
            proofBy("set " + set + " with 0", false, 3, 3, 1, 5, 1, 6, 1, set, 0);
            proofBy("set " + set + " with 0 ahead", false, 3, set, 0, 3, 1, 5, 1, 6, 1);
        }
        proofBy("8 bits that are below 0", false, 0, 3, 1, 5, 1, 6, 1, 255, 0);
    }

    /** Sets below the set's number that aren't of it. */
    private static void proofSetsOfOthers() {
        CoalStreet x = pairs(4);
        for (int sub = 1; sub <= 15; sub++) {
            // Households 0, 1 and 3.
            Twins.lay(x, 1, 0, 3, 1, 9, 1, 10, 1, sub, 0);
            due("set " + sub + " for 0, 1 and 3", (sub & 4) == 0, () -> x.proof(1, 11, 2));
            Twins.lay(x, 1, 0, 6, 1, 10, 1, 12, 1, sub, 0);
            due("set " + sub + " for 1, 2 and 3", (sub & 1) == 0, () -> x.proof(1, 14, 2));
        }
    }

    private static void proofSetsWithoutCost() {
        CoalStreet x = proving();
        x.bar(0, 3);
        Twins.lay(x, 1, 0, 6, 1, 10, 1, 12, 1);
        due("of 1, 2 and 3", true, () -> x.proof(1, 14, 2));
        Twins.lay(x, 1, 0, 6, 1, 10, 1, 12, 1, 14, 0);
        due("of 1, 2 and 3, with all", true, () -> x.proof(1, 14, 2));
        x.trust(1, 2, false);
        x.trust(2, 3, false);
        x.trust(3, 1, false);
        due("all three have no HOLDER", false, () -> x.proof(1, 14, 2));
        Twins.lay(x, 1, 0, 6, 1, 10, 1, 12, 1);
        due("each two have", true, () -> x.proof(1, 14, 2));
        x.bar(1, 3);
        due("two of them are barred", false, () -> x.proof(1, 14, 2));
    }

    private static void proofNumbers() {
        CoalStreet x = told("step 1 10;step 2 6;gather 1;step 3 7;", 1, 1, 1, 0);
        Twins.lay(x, 0, 3, 3, 1, 5, 1, 6, 1, 8, 100000);
        due("100,000 for a household that costs nothing", true, () -> x.proof(0, 15, 2));
        for (long v : new long[] {-1, 100001, 1L << 32, 1L << 32 | 5, Long.MIN_VALUE, Long.MAX_VALUE}) {
            x.write(0, 7, v);
            due(v + " for it", false, () -> x.proof(0, 15, 2));
        }
        x.write(0, 7, 2);
        due("2 for it", true, () -> x.proof(0, 15, 2));
        x.write(0, 7, 1);
        due("1 for it: too few", false, () -> x.proof(0, 15, 2));
        proofBy("0 more", true, 0, 3, 1, 5, 1, 6, 1, 1, 0);
        proofBy("less than 0", false, 0, 3, 1, 5, 1, 6, 1, 1, -1);
        proofBy("above what is needed in the middle", false, 3, 3, 1, 5, 100001, 6, 1);
        proofBy("8 bits: 255 is below 0", false, 0, 3, 1, 5, 1, 6, 255);
    }

    /** "so that for each HOUSEHOLD numbers of sets with it are that lower number or more together" */
    private static void proofCovers() {
        proofBy("just as much", true, 0, 3, 1, 5, 1, 6, 1);
        proofBy("0 has too few", false, 0, 3, 0, 5, 1, 6, 2);
        proofBy("1 has too few", false, 0, 3, 0, 5, 2, 6, 1);
        proofBy("2 has too few", false, 0, 3, 2, 5, 1, 6, 0);
        proofBy("one has more", true, 0, 3, 1, 5, 1, 6, 1, 2, 0);
        // 13 * 3 + 10 are 49, not less than 46.
        proofBy("one has more than can be", false, 0, 3, 1, 5, 1, 6, 1, 2, 1);
        CoalStreet x = pairs(5);
        Twins.lay(x, 0, 0, 3, 1, 12, 1, 17, 1, 6, 1, 24, 1);
        due("five round", true, () -> x.proof(0, 31, 2));
        x.write(0, 9, 0);
        due("the last ones have too few", false, () -> x.proof(0, 31, 2));
    }

    /** "and COSTS times numbers are less than TOTAL times it" */
    private static void proofCostsLess() {
        CoalStreet x = told("step 1 10;step 2 6;", 1, 1, 1);
        Twins.lay(x, 0, 0, 3, 1, 5, 1, 6, 1);
        due("36 isn't less than 18 times 2", false, () -> x.proof(0, 7, 2));
        Streets.tell(x, "step 1 10;step 2 6;gather 1;");
        due("39 is less than 20 times 2", true, () -> x.proof(0, 7, 2));
        Twins.lay(x, 0, 0, 7, 1);
        due("all is as much as all", false, () -> x.proof(0, 7, 1));
        Twins.lay(x, 0, 2, 7, 100000);
        due("all is far more than all", false, () -> x.proof(0, 7, 1));
        Streets.tell(x, "step 1 99;step 2 98;gather 99;cart 1 99;");
        Twins.lay(x, 0, 2, 1, 100000, 2, 100000, 4, 100000);
        due("far more by great numbers", false, () -> x.proof(0, 7, 1000));
    }

    // ---- promise 29: "What a HOUSEHOLD of a set pays by RULE is the FRACTION. IllegalArgumentException: it isn't in the
    // set; IllegalStateException: no TOTAL, or (alone) one of the set has no COST alone."

    private static Object ruled(CoalStreet x, int set, int house) {
        x.ruled(set, house);
        return Twins.NOTHING;
    }

    private static void ruledSets() {
        Twins.noSets("ruled", (x, set) -> ruled(x, set, leastOf(set)));
        for (int n = 1; n <= 7; n++) {
            int many = n;
            Twins.noSets("ruled", n, () -> pairs(many), (x, set) -> ruled(x, set, greatestOf(set)));
        }
    }

    private static void ruledHouseholds() {
        for (int house : NOT_IN_FIVE) {
            Twins.stays("ruled of " + house + " in 0 and 2", IAE, x -> ruled(x, 5, house));
            Twins.stays("ruled of " + house + " without TOTAL", IAE, () -> told("", 1, 1, 1), x -> ruled(x, 5, house));
            Twins.stays("ruled of " + house + " where one has no COST alone", IAE, () -> told("step 2 1;rule alone;", 1,
                    1, 1), x -> ruled(x, 5, house));
        }
        due("the first of two", Twins.NOTHING, () -> ruled(Twins.rich(), 5, 0));
        due("the last of two", Twins.NOTHING, () -> ruled(Twins.rich(), 5, 2));
    }

    private static void ruledOf(String what, CoalStreet x, int set, int house, long upper, long lower) {
        due(what, Twins.NOTHING, () -> ruled(x, set, house));
        fraction(what, x, upper, lower);
    }

    /** "parts: TOTAL is paid by all WANTS in MONTHS that count" */
    private static void ruledParts() {
        CoalStreet x = told("step 1 10;step 4 7;rule parts;", 1, 2, 3, 0);
        ruledOf("6 wanted for 42: 1", x, 7, 0, 7, 1);
        ruledOf("6 wanted for 42: 3", x, 7, 2, 21, 1);
        ruledOf("who wants nothing", x, 15, 3, 0, 1);
        x.want(3, 1, 8);
        ruledOf("nothing in months that count", x, 15, 3, 0, 1);
        Streets.tell(x, "step 1 10;step 4 7;months 2;");
        // 42 and 56 for 14.
        ruledOf("8 of 14 for 98", x, 15, 3, 56, 1);
        Streets.tell(x, "step 1 10;months 2;gather 5;keep 1;");
        ruledOf("one alone", x, 2, 1, 20, 1);
        CoalStreet y = told("step 1 10;step 3 9;", 1, 1, 1);
        y.bar(0, 1);
        ruledOf("a third of 30", y, 7, 0, 10, 1);
        CoalStreet z = told("step 1 10;step 3 9;gather 1;", 1, 2, 1, 3);
        // 3 alone 27, the others 36 and 2; all together 63 and 3.
        due("total", 65, () -> z.least(15));
        ruledOf("a seventh of it", z, 15, 0, 65, 7);
        ruledOf("three sevenths", z, 15, 3, 195, 7);
    }

    /** "alone: by COSTS of each alone" */
    private static void ruledAlone() {
        CoalStreet x = told("step 1 10;step 4 7;rule alone;", 1, 4, 3);
        // Alone 10, 28, 30; together 56.
        ruledOf("10 of 68", x, 7, 0, 140, 17);
        ruledOf("28 of 68", x, 7, 1, 392, 17);
        ruledOf("30 of 68", x, 7, 2, 420, 17);
        Supplier<CoalStreet> maker = () -> told("step 2 1;rule alone;", 1, 1, 2);
        Twins.stays("one has no COST alone", ISE, maker, y -> ruled(y, 3, 0));
        Twins.stays("another one has none", ISE, maker, y -> ruled(y, 5, 2));
        Twins.stays("another one has none", ISE, maker, y -> ruled(y, 7, 2));
        due("who has one", Twins.NOTHING, () -> ruled(maker.get(), 4, 2));
        Supplier<CoalStreet> parts = () -> told("step 2 1;rule parts;", 1, 1, 2);
        due("by parts it is no matter", Twins.NOTHING, () -> ruled(parts.get(), 7, 0));
    }

    /** "alike: alike (so, too, if these are all 0)" */
    private static void ruledAllNothing() {
        for (String rule : new String[] {"parts", "alone", "alike"}) {
            CoalStreet x = told("step 1 10;rule " + rule + ";", 0, 0, 0);
            for (int h = 0; h < 3; h++) {
                ruledOf("nothing for all by " + rule, x, 7, h, 0, 1);
            }
            ruledOf("nothing for one by " + rule, x, 2, 1, 0, 1);
        }
        CoalStreet y = told("step 1 10;rule alike;", 1, 2, 4);
        for (int h = 0; h < 3; h++) {
            ruledOf("70 alike", y, 7, h, 70, 3);
        }
        Streets.tell(y, "step 1 10;rule parts;");
        ruledOf("by parts", y, 7, 0, 10, 1);
    }

    private static void ruledWithoutTotal() {
        for (String rule : new String[] {"parts", "alone", "alike"}) {
            Supplier<CoalStreet> maker = () -> told("step 3 1;rule " + rule + ";", 1, 1);
            Twins.stays("without TOTAL by " + rule, ISE, maker, x -> ruled(x, 3, 0));
            Twins.stays("of one without TOTAL by " + rule, ISE, maker, x -> ruled(x, 2, 1));
            Twins.stays("keeps without TOTAL by " + rule, ISE, maker, x -> x.keeps(3));
        }
    }

    // ---- promise 30: "The first set (by its number) of a set's HOUSEHOLDS that LEAVES, when all pay by RULE; NONE.
    // IllegalStateException: as for ruled()."

    private static void keepsFirstSet() {
        CoalStreet x = pairs(4);
        due("of three each pair leaves", 3, () -> x.keeps(7));
        due("of others, too", 6, () -> x.keeps(14));
        due("of four none: 26 are 6 and a half each", -1, () -> x.keeps(15));
        due("of two none", -1, () -> x.keeps(10));
        due("of one none", -1, () -> x.keeps(8));
        CoalStreet y = told("step 1 10;rule alike;", 8, 1, 2, 1);
        // 120 alike are 30 each: 1, 2 and 3 leave alone, 1 first.
        due("the first one that leaves", 2, () -> y.keeps(15));
        due("of 0 and 2", 4, () -> y.keeps(5));
        due("of 0 and 3", 8, () -> y.keeps(9));
        due("of 1 and 3 none", -1, () -> y.keeps(10));
    }

    private static void keepsAsMuchIsNotAbove() {
        CoalStreet x = told("step 1 10;step 2 6;rule alike;", 1, 1, 1);
        due("each two pay what they cost", -1, () -> x.keeps(7));
        Streets.tell(x, "step 1 10;step 2 6;step 3 7;rule alike;");
        // 21, or 12 and 10: each two pay 14.
        due("a bit more", 3, () -> x.keeps(7));
        Streets.tell(x, "step 2 6;step 3 7;rule alike;");
        due("without COST alone", 3, () -> x.keeps(7));
        x.bar(0, 1);
        due("two of three are barred, and one can't alone", ISE, () -> x.keeps(7));
        CoalStreet y = told("step 1 10;step 5 7;rule alike;", 1, 4);
        // 35: 17 and a half each, alone 10 and 40.
        due("one pays above 10", 1, () -> y.keeps(3));
        Streets.tell(y, "step 1 18;step 5 7;rule alike;");
        due("none pays above 18", -1, () -> y.keeps(3));
        Streets.tell(y, "step 1 17;step 5 7;rule alike;");
        due("half a coin above 17", 1, () -> y.keeps(3));
        Streets.tell(y, "step 1 17;step 5 7;rule parts;");
        due("by parts 7 and 28", -1, () -> y.keeps(3));
    }

    private static void keepsThrows() {
        Twins.noSets("keeps", CoalStreet::keeps);
        for (int n = 1; n <= 7; n++) {
            int many = n;
            Twins.noSets("keeps", n, () -> pairs(many), CoalStreet::keeps);
        }
        Supplier<CoalStreet> maker = () -> told("step 2 1;rule alone;", 1, 1, 2);
        Twins.stays("one has no COST alone", ISE, maker, x -> x.keeps(3));
        Twins.stays("one of three has none", ISE, maker, x -> x.keeps(7));
        due("who has one", -1, () -> maker.get().keeps(4));
        Twins.stays("no set", IAE, maker, x -> x.keeps(8));
    }
}
