import java.math.BigInteger;
import java.util.function.Supplier;

/**
 * What promises 31 to 34 and the terms of DOUBTS, RISK, BEFORE and SELLER say without naming a boundary, where it could
 * be read otherwise: by hand, and by what these calls say of one another and of the others.
 */
public final class SentencesOfDoubtTest {
    private SentencesOfDoubtTest() {
    }

    public static void main(String[] args) {
        doubtIsOneMore();
        doubtsOfOne();
        doubtsInAnyOrder();
        chancesAreOfOne();
        doubtsAreByThemselves();
        doubtsOfMonthZero();
        doubtsAreForRiskAlone();
        riskIsOfItsSet();
        riskIsInTheMean();
        riskBuysInSeveral();
        riskLooksAtNothingElse();
        riskChangesNothingElse();
        beforeIsLeastOfAll();
        beforeByHand();
        sellerByHand();
        sellerKeepsTheRest();
        sellerTellsNoTariff();
        sellerCountsWhatIsBought();
        sellerByEachStep();
        sellerOfItsSet();
        answersAreOfNow();
        Check.end();
    }

    private static void due(String what, Object want, Check.Call call) {
        Check.due(what, want, call);
    }

    private static CoalStreet told(String text, int... wants) {
        CoalStreet x = Streets.trusting(wants);
        Streets.tell(x, text);
        return x;
    }

    private static void doubts(CoalStreet x, int house, int... pairs) {
        for (int i = 0; i < pairs.length; i += 2) {
            x.doubt(house, pairs[i], pairs[i + 1]);
        }
    }

    private static void risked(String what, CoalStreet x, int set, int q, long upper, long lower) {
        due(what, true, () -> x.risk(set, q));
        long most = BigInteger.valueOf(upper).gcd(BigInteger.valueOf(lower)).longValue();
        Check.same(what + " as a FRACTION", upper / most + "/" + lower / most, x.upper() + "/" + x.lower());
    }

    // ---- promise 31: "A DOUBT more of a HOUSEHOLD: how many it has"

    private static void doubtIsOneMore() {
        CoalStreet x = told("late 12;", 0, 0);
        int[][] told = {{3, 1}, {6, 1}, {3, 2}, {0, 2}};
        long[] due = {36, 54, 45, 30};
        for (int i = 0; i < 4; i++) {
            int at = i;
            due("how many", i + 1, () -> x.doubt(0, told[at][0], told[at][1]));
            due("of all", i + 1, () -> x.count(5));
            risked("with " + (i + 1), x, 1, 0, due[i], 1);
        }
        due("another one has one", 1, () -> x.doubt(1, 3, 1));
        due("of all", 5, () -> x.count(5));
    }

    // ---- "DOUBTS of a HOUSEHOLD, at most 4: what it may want in MONTH 0 (0 to 8), with a chance (1 to 9)"

    private static void doubtsOfOne() {
        for (int one = 0; one < 7; one++) {
            CoalStreet x = told("late 1;", 1, 1, 1, 1, 1, 1, 1);
            doubts(x, one, 5, 1, 6, 1);
            for (int other = 0; other < 7; other++) {
                risked("of " + other, x, 1 << other, 0, other == one ? 11 : 1, other == one ? 2 : 1);
            }
            risked("of all", x, 127, 0, 23, 2);
        }
    }

    private static void doubtsInAnyOrder() {
        int[][] orders = {{0, 1, 2, 3}, {3, 2, 1, 0}, {2, 0, 3, 1}, {1, 3, 0, 2}};
        int[][] pairs = {{0, 3}, {8, 1}, {2, 2}, {5, 4}};
        for (int[] order : orders) {
            CoalStreet x = told("step 1 1;late 9;keep 2;", 0);
            for (int i : order) {
                doubts(x, 0, pairs[i]);
            }
            // Of ten chances 3 for 0, 2 for 2, 4 for 5, 1 for 8.
            risked("none bought", x, 1, 0, (2 * 2 + 4 * 5 + 8) * 9, 10);
            risked("4 bought", x, 1, 4, 40 + 3 * 8 + 2 * 4 + 4 * 9 + 36, 10);
        }
        // Told in parts it is the same.
        CoalStreet y = told("step 1 1;late 9;keep 2;", 0);
        doubts(y, 0, 5, 1, 0, 1, 5, 2);
        risked("5 with 1 and 2 of 4", y, 1, 0, 135, 4);
        risked("2 bought", y, 1, 2, 8 + 4 + 81, 4);
    }

    /** How great chances are counts against those of the same household, not against those of others. */
    private static void chancesAreOfOne() {
        CoalStreet x = told("late 1;", 0, 0);
        doubts(x, 0, 0, 9, 8, 9);
        doubts(x, 1, 0, 1, 8, 1);
        risked("9 to 9", x, 1, 0, 4, 1);
        risked("1 to 1", x, 2, 0, 4, 1);
        risked("both", x, 3, 0, 8, 1);
        CoalStreet y = told("late 1;", 0);
        doubts(y, 0, 6, 7);
        risked("7 to nothing is for sure", y, 1, 0, 6, 1);
    }

    // ---- "All are by themselves."

    /** Not all at once, not one by one: each way of one with each way of another one. */
    private static void doubtsAreByThemselves() {
        CoalStreet x = told("step 1 1;late 10;", 0, 0, 0);
        for (int h = 0; h < 3; h++) {
            doubts(x, h, 0, 1, 1, 1);
        }
        // Of two: 0, 1, 1, 2.
        risked("of two 1 bought", x, 3, 1, 4 + 10, 4);
        risked("of two 2 bought", x, 3, 2, 2, 1);
        // Of three: 0, 1 1 1, 2 2 2, 3.
        risked("of three none bought", x, 7, 0, 15, 1);
        risked("of three 1 bought", x, 7, 1, 8 + 3 * 10 + 20, 8);
        risked("of three 2 bought", x, 7, 2, 16 + 10, 8);
        doubts(x, 2, 1, 2);
        // Of the third one now 1 with 3 of 4: of all 16 1 for 0, 5 for 1, 7 for 2, 3 for 3.
        risked("of three 2 bought", x, 7, 2, 32 + 3 * 10, 16);
        risked("of three 1 bought", x, 7, 1, 16 + 70 + 60, 16);
    }

    // ---- "without: its WANT for sure", "what it may want in MONTH 0"

    private static void doubtsOfMonthZero() {
        CoalStreet x = told("step 1 10;late 3;months 3;", 2, 4);
        x.want(0, 1, 8);
        x.want(0, 2, 8);
        risked("WANT of MONTH 0", x, 1, 0, 6, 1);
        doubts(x, 0, 4, 1);
        risked("DOUBTS in its place", x, 1, 0, 12, 1);
        x.want(0, 0, 7);
        risked("whatever it wants", x, 1, 0, 12, 1);
        risked("the other one wants 4", x, 3, 0, 24, 1);
        x.want(1, 0, 5);
        risked("the other one wants 5", x, 3, 0, 27, 1);
    }

    /** COST, TOTAL and all of them go by WANTS. */
    private static void doubtsAreForRiskAlone() {
        CoalStreet x = Twins.rich();
        CoalStreet y = Twins.rich();
        for (int h = 0; h < 5; h++) {
            while (x.doubt(h, 7, 5) != -1) {
                Check.same("a doubt more", true, x.count(5) <= 20);
            }
        }
        for (int set = 1; set < 32; set++) {
            int some = set;
            due("cost", y.cost(set), () -> x.cost(some));
            due("bought", y.bought(set, 0), () -> x.bought(some, 0));
            due("least", y.least(set), () -> x.least(some));
            due("group", y.group(set, 4), () -> x.group(some, 4));
            due("judge", y.judge(set), () -> x.judge(some));
            due("keeps", y.keeps(set), () -> x.keeps(some));
            if (Integer.bitCount(set) < 5) {
                due("seller", y.seller(set, 3, 1, 2), () -> x.seller(some, 3, 1, 2));
            }
        }
    }

    // ---- promise 32: "RISK of a set that buys q in MONTH 0 ahead of it: BUYS of q, and in the mean late for each sack
    // that is wanted more, keep for each that is left (CELLARS, gather, HOLDERS aside)."

    private static void riskIsOfItsSet() {
        CoalStreet x = told("step 1 2;late 5;keep 1;", 1, 2, 3, 4);
        int[] wants = {1, 2, 3, 4};
        for (int set = 1; set <= 15; set++) {
            int all = 0;
            for (int h = 0; h < 4; h++) {
                all += (set >> h & 1) * wants[h];
            }
            for (int q = 0; q <= 8 * Integer.bitCount(set); q++) {
                risked("of " + set, x, set, q, 2 * q + 5 * Math.max(0, all - q) + Math.max(0, q - all), 1);
            }
        }
    }

    /** The mean of what is late, not what is late of the mean. */
    private static void riskIsInTheMean() {
        CoalStreet x = told("step 1 1;late 20;keep 4;", 0);
        doubts(x, 0, 0, 1, 8, 1);
        risked("4 bought: 4 late, or 4 left", x, 1, 4, 4 + 40 + 8, 1);
        risked("1 bought", x, 1, 1, 1 + 70 + 2, 1);
        risked("7 bought", x, 1, 7, 7 + 10 + 14, 1);
        Streets.tell(x, "step 1 1;late 20;");
        risked("without keep", x, 1, 4, 44, 1);
        Streets.tell(x, "step 1 1;keep 4;");
        risked("without late", x, 1, 4, 12, 1);
        // A third of 0, 1 and 8.
        doubts(x, 0, 1, 1);
        Streets.tell(x, "step 1 1;late 20;keep 4;");
        risked("thirds", x, 1, 4, 12 + 16 + 12 + 80, 3);
    }

    private static void riskBuysInSeveral() {
        CoalStreet x = told("step 2 9;step 3 4;step 4 9;cart 3 1;rise 0 2;rise 1 50;", 8, 8);
        // 3 are 12 and 1, 2 are 18 and 1, 4 are 36 and 2 (2 and 2 38), 5 are 13 and 19, 6 are 26, 1 can't be.
        int[] due = {0, -1, 19 + 4, 13 + 6, 38 + 8, 32 + 10, 26 + 12, 51 + 14};
        for (int q = 0; q < due.length; q++) {
            int sacks = q;
            if (due[q] >= 0) {
                risked("risk of " + q, x, 1, q, due[q], 1);
            } else {
                due("risk of " + q, false, () -> x.risk(1, sacks));
            }
            due("as BUYS", due[q], () -> x.buys(sacks, 0));
        }
    }

    private static void riskLooksAtNothingElse() {
        CoalStreet x = new CoalStreet();
        for (int i = 0; i < 3; i++) {
            x.house(0);
            x.want(i, 0, 1 + i);
        }
        Streets.tell(x, "step 1 2;late 5;keep 1;gather 90;months 4;rule alone;");
        String[] due = new String[25];
        for (int round = 0; round < 5; round++) {
            for (int q = 0; q <= 24; q++) {
                x.risk(7, q);
                String got = x.upper() + "/" + x.lower();
                due[q] = round == 0 ? got : due[q];
                Check.same("risk of " + q + " in round " + round, due[q], got);
            }
            switch (round) {
                case 0:
                    x.cellar(0, 8);
                    x.cellar(2, 5);
                    break;
                case 1: x.trust(0, 1, true); x.trust(2, 1, true); break;
                case 2: x.bar(0, 2); break;
                default: x.want(0, 1, 8); x.pay(1, 7); x.by(7); x.house(8);
            }
        }
    }

    private static void riskChangesNothingElse() {
        CoalStreet x = Twins.rich();
        String before = Streets.print(x).replaceFirst("\\d+/\\d+", "");
        x.risk(31, 5);
        x.risk(1, 8);
        x.before(31);
        Check.same("but the FRACTION all is as it was", before, Streets.print(x).replaceFirst("\\d+/\\d+", ""));
    }

    // ---- promise 33: "BEFORE of a set; its RISK is the FRACTION."

    /** As by risk() of each q. */
    private static void beforeIsLeastOfAll() {
        for (int seed = 0; seed < 40; seed++) {
            int some = seed;
            CoalStreet x = told("step " + (1 + seed % 3) + " " + (3 + seed % 4) + ";step " + (4 + seed % 5) + " "
                    + (1 + seed % 3) + ";late " + (2 + seed % 7) + ";keep " + seed % 4 + ";rise 0 " + seed % 2 + ";cart "
                    + (3 + seed % 4) + " " + seed % 5 + ";" + (seed % 2 == 0 ? "above;" : ""), 1, 4, 7);
            for (int h = 0; h < 3; h++) {
                for (int i = 0; i < (seed + h) % 4; i++) {
                    x.doubt(h, (seed + 3 * i + 2 * h) % 9, 1 + (seed + i) % 4);
                }
            }
            for (int set = 1; set <= 7; set++) {
                BigInteger[] least = null;
                int best = -1;
                for (int q = 0; q <= 8 * Integer.bitCount(set); q++) {
                    if (x.risk(set, q)) {
                        BigInteger[] risk = {BigInteger.valueOf(x.upper()), BigInteger.valueOf(x.lower())};
                        if (least == null || risk[0].multiply(least[1]).compareTo(least[0].multiply(risk[1])) < 0) {
                            least = risk;
                            best = q;
                        }
                    }
                }
                int group = set;
                due("BEFORE of " + set + " in " + some, best, () -> x.before(group));
                Check.same("its RISK", least[0] + "/" + least[1], x.upper() + "/" + x.lower());
            }
        }
    }

    private static void before(String what, CoalStreet x, int set, int q, long upper, long lower) {
        due(what, q, () -> x.before(set));
        Check.same(what + ": its RISK", upper + "/" + lower, x.upper() + "/" + x.lower());
    }

    private static void beforeByHand() {
        CoalStreet x = told("step 1 4;late 12;keep 2;", 0);
        doubts(x, 0, 1, 1, 3, 1, 6, 1);
        // Each sack 4 and 2 if it is left, and 12 less if it isn't late: up to 3 it spares 12 two times of three.
        before("what two of three want", x, 1, 3, 4 * 9 + 4 + 36, 3);
        Streets.tell(x, "step 1 4;late 22;keep 2;");
        before("what all want", x, 1, 6, 72 + 10 + 6, 3);
        Streets.tell(x, "step 1 4;late 4;keep 2;");
        before("as dear as late, and some are left", x, 1, 0, 40, 3);
        Streets.tell(x, "step 1 4;step 4 2;late 12;keep 2;");
        // 4 are 8 and in the mean 32 thirds; 5 are 10 and 24 thirds; 6 are 12 and 16 thirds.
        before("more by a step", x, 1, 6, 36 + 10 + 6, 3);
    }

    // ---- promise 34: "A SELLER with a price p, to whom a sack costs k, makes instead of all steps: from 1 on p, from n
    // on r; GAIN: TOTAL of a set less k for each sack in THE PLANS of its GROUPS. MOST: the greatest GAIN"

    private static void seller(String what, CoalStreet x, int set, int p, int k, int... due) {
        for (int i = 0; i < 4; i++) {
            int w = i;
            due(what + ", what " + i, due[i], () -> x.seller(set, p, k, w));
        }
    }

    private static void sellerByHand() {
        // 3 for 30; from 2 or 3 on they cost less, from 4 on 4 for 32 aren't bought.
        CoalStreet x = told("step 1 50;", 3);
        x.cellar(0, 8);
        seller("nothing is gained by a step", x, 1, 10, 2, 4, 8, 24, 24);
        // 5 at once for 50; from 6 on 6 for 48 would be bought, for 54 not.
        Streets.tell(x, "months 2;rise 1 8;");
        x.want(0, 1, 2);
        seller("they buy ahead", x, 1, 10, 2, 6, 9, 40, 40);
        // Without a cellar 18 for each sack in month 1; 4 at once are never bought.
        x.cellar(0, 0);
        seller("they don't", x, 1, 10, 2, 4, 1, 66 - 10, 66 - 10);
    }

    /** "instead of all steps": but nothing else of the TARIFF. */
    private static void sellerKeepsTheRest() {
        String[] texts = {"", "step 1 3;", "step 1 3;step 2 1;step 9 7;", "above;", "above;step 2 9;", "cart 3 7;",
            "cart 3 7;step 5 9;", "gather 2;", "months 2;", "months 2;keep 3;", "months 2;rise 1 4;", "rise 0 4;",
            "rise 3 4;", "late 7;rule alike;"};
        int[] due = {30, 30, 30, 30, 30, 44, 44, 30, 60, 60, 72, 42, 30, 30};
        for (int i = 0; i < texts.length; i++) {
            CoalStreet x = told(texts[i], 1, 2);
            x.want(0, 1, 1);
            x.want(1, 1, 2);
            String text = texts[i];
            int all = i;
            due("p alone by " + text, text.startsWith("cart") ? 30 + 7 : due[all], () -> x.seller(3, 10, 0, 3));
        }
        // Of 8 wanted at 2 and 1: whole 8 to 12 by n, above 9 to 16.
        CoalStreet y = told("", 8);
        y.cellar(0, 8);
        seller("whole", y, 1, 2, 0, 12, 1, 12, 16);
        Streets.tell(y, "above;");
        seller("above", y, 1, 2, 0, 9, 1, 16, 16);
        Streets.tell(y, "keep 2;");
        // 9 for 9 and 2, 10 for 10 and 4, and then no more.
        seller("keep", y, 1, 2, 0, 11, 1, 16, 16);
        Streets.tell(y, "rise 0 1;");
        // 8 for 24; 9 for 18, 10 for 20, 11 for 22, 12 for 24 as well.
        seller("rise", y, 1, 2, 0, 12, 1, 24, 24);
        Streets.tell(y, "cart 8 2;");
        // 8 for 16 and 2; 9 for 9 and 4, 12 for 12 and 4.
        seller("carts", y, 1, 2, 0, 12, 1, 16, 18);
    }

    private static void sellerTellsNoTariff() {
        CoalStreet x = Twins.rich();
        for (int what = 0; what < 4; what++) {
            int w = what;
            int answer = x.seller(11, 12, 3, what);
            Twins.stays("a seller", answer, y -> y.seller(11, 12, 3, w));
        }
        CoalStreet y = told("step 1 50;step 4 7;", 2, 3);
        due("a cost", 35, () -> y.cost(3));
        due("a seller", 50, () -> y.seller(3, 10, 0, 3));
        due("the cost", 35, () -> y.cost(3));
        due("a price", 100, () -> y.price(2));
        due("steps", 2, () -> y.count(1));
    }

    /** "k for each sack in THE PLANS of its GROUPS": for what is bought, not for what is wanted. */
    private static void sellerCountsWhatIsBought() {
        CoalStreet x = told("", 8);
        x.cellar(0, 8);
        // From n on 1: 8 for 8 up to 8, then n for n rather than 8 for 16.
        seller("a sack costs nothing", x, 1, 2, 0, 12, 1, 12, 16);
        seller("a sack costs 1", x, 1, 2, 1, 2, 1, 0, 8);
        seller("a sack costs 2", x, 1, 2, 2, 2, 1, -8, 0);
        seller("a sack costs 3", x, 1, 2, 3, 2, 1, -16, -8);
        x.cellar(0, 3);
        // 12 have no room: p alone is left.
        seller("a sack costs 2, and there is no room for 12", x, 1, 2, 2, 12, 1, 0, 0);
    }

    /** GAIN by telling such a TARIFF and asking for TOTAL, GROUPS and THE PLANS. */
    private static int gain(Supplier<CoalStreet> maker, String rest, String steps, int set, int k) {
        CoalStreet y = maker.get();
        Streets.tell(y, rest + steps);
        int sacks = 0;
        for (int g = 0; g < y.group(set, -1); g++) {
            int group = 0;
            for (int h = 0; h < 7; h++) {
                group |= y.group(set, h) == g ? 1 << h : 0;
            }
            sacks += y.bought(group, -1);
        }
        return y.least(set) - k * sacks;
    }

    private static void sellerByEachStep() {
        String[] rests = {"", "above;", "cart 4 3;", "gather 3;months 2;keep 1;", "rise 0 3;cart 3 5;cart 7 6;months 2;",
            "above;gather 1;months 3;rise 1 2;rise 2 5;"};
        for (int seed = 0; seed < 24; seed++) {
            int some = seed;
            Supplier<CoalStreet> maker = () -> {
                CoalStreet x = Streets.trusting(1 + some % 4, some % 3, 2 + some % 5, 3);
                x.cellar(some % 4, 3 + some % 6);
                x.cellar((some + 2) % 4, some % 4);
                x.want(some % 4, 1, 1 + some % 3);
                x.want(1, 2, 2);
                if (some % 3 == 0) {
                    x.bar(0, 2);
                }
                return x;
            };
            String rest = rests[seed % rests.length];
            int set = new int[] {15, 7, 13, 1, 6, 11}[seed / 4];
            int p = 3 + seed % 4;
            int k = seed % 5;
            int n = -1;
            int r = -1;
            int most = Integer.MIN_VALUE;
            for (int i = 2; i <= 12; i++) {
                for (int j = 1; j < p; j++) {
                    int gain = gain(maker, rest, "step 1 " + p + ";step " + i + " " + j + ";", set, k);
                    if (gain > most) {
                        n = i;
                        r = j;
                        most = gain;
                    }
                }
            }
            CoalStreet x = maker.get();
            Streets.tell(x, rest + "step 3 7;step 1 99;");
            seller("by each step of " + p + " in " + seed, x, set, p, k, n, r, most,
                    gain(maker, rest, "step 1 " + p + ";", set, k));
        }
    }

    private static void sellerOfItsSet() {
        CoalStreet x = told("", 1, 2, 3, 4, 5);
        int[] wants = {1, 2, 3, 4, 5};
        for (int set = 1; set < 31; set++) {
            int some = set;
            int all = 0;
            for (int h = 0; h < 5; h++) {
                all += (set >> h & 1) * wants[h];
            }
            int sacks = all;
            due("p alone of " + set, 7 * sacks, () -> x.seller(some, 9, 2, 3));
        }
    }

    // ---- each of these calls tells of the street as it is now, whatever was asked before.

    private static String answers(CoalStreet x) {
        StringBuilder all = new StringBuilder();
        for (int set = 1; set < 1 << x.count(0); set++) {
            for (int q = 3; q <= 8; q += 5) {
                all.append(x.risk(set, q) ? x.upper() + "/" + x.lower() : "-").append(' ');
            }
            all.append(x.before(set)).append(' ').append(x.upper()).append('/').append(x.lower()).append(' ');
            for (int what = 0; what < 4 && Integer.bitCount(set) < 5; what += 3) {
                all.append(x.seller(set, 6, 1, what)).append(' ');
            }
        }
        return all.toString();
    }

    private static void answersAreOfNow() {
        Twins.Use[] changes = {x -> x.want(2, 0, 8), x -> x.want(4, 1, 3), x -> x.cellar(0, 8), x -> x.bar(0, 4),
            x -> x.trust(0, 4, false) | x.trust(4, 0, false), x -> x.trust(3, 4, true),
            x -> x.take(0, 2), x -> x.doubt(3, 8, 1), x -> x.doubt(0, 8, 1), Twins.act(x -> x.restore(0)),
            Twins.act(x -> x.restore(2)), x -> Streets.tell(x, "step 1 3;gather 3;late 6;"), x -> Streets.tell(x, "late 4;"),
            x -> Streets.tell(x, "step 1 2;cart 9 9;keep 3;")};
        for (int i = 0; i < changes.length; i++) {
            CoalStreet asked = seen();
            CoalStreet fresh = seen();
            String before = answers(asked);
            changes[i].of(asked);
            changes[i].of(fresh);
            String due = answers(fresh);
            Twins.like("answers behind change " + i, due, answers(asked));
            Check.same("change " + i + " is one", false, due.equals(before));
        }
    }

    private static CoalStreet seen() {
        CoalStreet x = Twins.rich();
        x.text(0);
        Streets.tell(x, "step 1 4;step 4 2;cart 7 2;gather 1;keep 1;late 5;months 2;");
        return x;
    }
}
