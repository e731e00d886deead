import java.math.BigInteger;
import java.util.Arrays;

/**
 * What promises 20 to 30 and the terms of PAY, LEAVES, JUDGED, PARTING, SHARES, FIRST ROW, MISSING, WEIGHTS and RULE say
 * without naming a boundary, where it could be read otherwise: by hand, and by what these calls say of one another.
 */
public final class SentencesOfPartingsTest {
    private SentencesOfPartingsTest() {
    }

    public static void main(String[] args) {
        fractionStaysAsItWasTold();
        fractionOfNoOtherCall();
        payIsOfOne();
        lowerNumberIsOfAll();
        payIsWhatWasTold();
        judgedByTotal();
        judgedByItsOwnSets();
        judgedBySetsWithCost();
        judgedByTheirNumbers();
        partingsOfTheseAlone();
        missingByHand();
        missingIsNothingWhereOneHolds();
        sharesByHand();
        sharesOfFractions();
        firstRowByHand();
        firstRowIsAParting();
        sharesHoldTheFirstRow();
        proofByHand();
        proofOfEachSort();
        proofIsRight();
        proofIsAlwaysThere();
        ruledByHand();
        ruledTogetherIsTotal();
        keepsAsJudged();
        keepsWhereNoneHolds();
        answersAreOfNow();
        Check.end();
    }

    private static void due(String what, Object want, Check.Call call) {
        Check.due(what, want, call);
    }

    private static CoalStreet told(String text, int... wants) {
        CoalStreet x = Streets.trusting(wants);
        Streets.tell(x, text);
        return x;
    }

    private static void fraction(String what, CoalStreet x, long upper, long lower) {
        Check.same(what + " as a FRACTION", upper + "/" + lower, x.upper() + "/" + x.lower());
    }

    private static void pays(CoalStreet x, int... coins) {
        for (int i = 0; i < coins.length; i++) {
            x.pay(i, coins[i]);
        }
    }

    private static boolean has(int set, int house) {
        return (set >> house & 1) == 1;
    }

    /** Streets that differ: in some no parting holds, in some there is just one, in some there are many. */
    private static CoalStreet street(int seed) {
        int n = 3 + seed % 3;
        CoalStreet x = new CoalStreet();
        for (int i = 0; i < n; i++) {
            x.house((seed + i) % 3);
            x.want(i, 0, seed % 2 == 0 ? 1 + (seed * 7 + i * 5) % 6 : 2 + (seed / 2 + i) % 2);
            x.want(i, 1, seed % 4 == 2 ? (seed + i * 3) % 4 : 0);
        }
        for (int i = 0; i < n * n; i++) {
            if (i / n != i % n && (seed % 4 > 0 || i % 5 > 0)) {
                x.trust(i / n, i % n, true);
            }
        }
        if (seed % 6 == 5) {
            x.bar(0, 2);
        }
        // By steps it is good to be many; by carts it is good to be so many as fill one.
        String price = seed % 2 == 0 ? "step 1 " + (9 + seed % 5) + ";step " + (3 + seed % 4) + " " + (5 + seed % 3)
                + ";step " + (9 + seed % 3) + " " + (4 + seed % 4) + ";cart " + (2 + seed % 5) + " " + seed % 9
                : "step 1 " + (1 + seed % 3) + ";cart " + (4 + seed % 3) + " " + (20 + seed % 7);
        Streets.tell(x, price + ";gather " + seed % 5 + ";months " + (1 + seed % 2) + ";rise 1 " + seed % 3 + ";keep "
                + seed % 2 + ";rule " + new String[] {"parts", "alone", "alike"}[seed / 3 % 3] + ";");
        return x;
    }

    private static final int STREETS = 60;

    // ---- promises 20 and 21: "The upper number of the latest FRACTION", "Its lower number"

    private static void fractionStaysAsItWasTold() {
        CoalStreet x = told("step 1 10;step 5 8;rule alike;", 3, 4);
        x.share(3, 0, false);
        fraction("16", x, 16, 1);
        x.want(0, 0, 8);
        Streets.tell(x, "step 1 1;");
        x.bar(0, 1);
        fraction("16 though all is another", x, 16, 1);
        due("a call that throws", Twins.ISE, () -> {
            Streets.tell(x, "");
            return x.can(3);
        });
        fraction("16 behind it", x, 16, 1);
        for (int i = 0; i < 3; i++) {
            due("upper again", 16, x::upper);
            due("lower again", 1, x::lower);
        }
    }

    /** "each call that says so tells a FRACTION": the others don't. */
    private static void fractionOfNoOtherCall() {
        Twins.Use[] others = {x -> x.house(1), x -> x.want(0, 0, 1), x -> x.cellar(0, 1), x -> x.bar(0, 1),
            x -> x.trust(0, 1, false), x -> x.holder(7), x -> x.chain(0, 1), x -> x.feed(1, 2, 3, 4, 5), x -> x.text(10),
            x -> x.fault(0), x -> x.price(3), x -> x.buys(3, 0), x -> x.cost(3), x -> x.bought(3, 0), x -> x.least(31),
            x -> x.group(31, 0), x -> x.come(3, 4), x -> x.join(1, 2, 3), x -> x.upper(), x -> x.lower(),
            x -> x.pay(0, 6), x -> x.by(6), x -> x.judge(3), x -> x.proof(0, 3, 1), x -> x.proof(1, 7, 9),
            x -> x.keeps(7), x -> x.doubt(2, 1, 1), x -> x.seller(3, 4, 1, 2), Twins.act(x -> x.tray(0, 0, 3)),
            x -> x.write(0, 0, 3), x -> x.take(0, 0), Twins.act(x -> x.image(1)), Twins.act(x -> x.restore(0)),
            x -> x.count(0)};
        for (int i = 0; i < others.length; i++) {
            CoalStreet x = Twins.rich();
            long upper = x.upper();
            long lower = x.lower();
            Check.same("there is one", true, lower > 0);
            others[i].of(x);
            fraction("call " + i + " tells none", x, upper, lower);
        }
    }

    // ---- promises 22 and 23: "PAY of a HOUSEHOLD: 0 to 100,000 over one lower number D (1 to 1000), told by hand"

    private static void payIsOfOne() {
        for (int one = 0; one < 7; one++) {
            int house = one;
            CoalStreet x = told("", new int[7]);
            due("pay", 0, () -> x.pay(house, 77));
            for (int i = 0; i < 7; i++) {
                int other = i;
                due("pay of " + i, i == one ? 77 : 0, () -> x.pay(other, 5));
            }
        }
    }

    /** What was told before is over the new lower number, too, and is as many. */
    private static void lowerNumberIsOfAll() {
        CoalStreet x = told("step 1 10;", 1, 1);
        pays(x, 60, 40);
        due("100 over 1 are too much", -2, () -> x.judge(3));
        x.by(5);
        due("100 over 5 are right, but 12 is above 10", 1, () -> x.judge(3));
        x.pay(0, 50);
        x.pay(1, 50);
        due("10 each", -1, () -> x.judge(3));
        x.by(4);
        due("over 4 they are too much", -2, () -> x.judge(3));
        due("what 0 pays", 50, () -> x.pay(0, 40));
        due("what 1 pays", 50, () -> x.pay(1, 40));
        due("80 over 4", -1, () -> x.judge(3));
    }

    /** A PAY is told by hand: nothing else tells it, and it needn't be right. */
    private static void payIsWhatWasTold() {
        CoalStreet x = told("step 1 10;rule alike;late 3;", 1, 1);
        pays(x, 3, 99999);
        x.can(3);
        x.share(3, 0, true);
        x.row(3, 1);
        x.ruled(3, 0);
        x.keeps(3);
        x.judge(3);
        x.before(3);
        x.want(0, 0, 8);
        Streets.tell(x, "");
        due("what 0 pays", 3, () -> x.pay(0, 0));
        due("what 1 pays", 99999, () -> x.pay(1, 0));
        due("D", 1, () -> x.by(1));
    }

    // ---- promise 24: "JUDGED for a set: -2 if all PAY of it isn't TOTAL; else the first set of its HOUSEHOLDS (by its
    // number) that LEAVES; -1 if none does."

    /** By the TOTAL, not by the COST of all, nor by what each costs alone. */
    private static void judgedByTotal() {
        CoalStreet x = told("step 1 10;step 2 6;gather 1;", 1, 1, 1);
        // Alone 10; two 13; three 20, or 13 and 10.
        pays(x, 7, 7, 6);
        due("20: two pay above 13", 3, () -> x.judge(7));
        pays(x, 13, 10, 0);
        due("23", -2, () -> x.judge(7));
        Streets.tell(x, "step 1 10;step 2 6;gather 9;");
        // Two 21, three 36: each alone.
        pays(x, 10, 10, 10);
        due("30 is the TOTAL", -1, () -> x.judge(7));
        pays(x, 12, 12, 12);
        due("36 is the COST", -2, () -> x.judge(7));
    }

    private static void judgedByItsOwnSets() {
        CoalStreet x = told("step 1 10;step 2 6;step 3 7;gather 1;", 1, 1, 1, 1, 1);
        // Alone 10, two 13, four 26.
        pays(x, 13, 0, 13, 0, 10);
        due("of 0 to 3: 0 pays 13", 1, () -> x.judge(15));
        pays(x, 8, 5, 8, 5, 10);
        due("of 0 to 3: 0 and 2 pay 16", 5, () -> x.judge(15));
        due("of 0 and 1", -1, () -> x.judge(3));
        due("of 2 and 3", -1, () -> x.judge(12));
        due("of 4", -1, () -> x.judge(16));
        due("of 0, 1, 4: 23, and each two above", 17, () -> x.judge(19));
        pays(x, 3, 10, 3, 10, 9);
        due("of 1 and 3: 20", -2, () -> x.judge(10));
        due("of 0 and 1", -1, () -> x.judge(3));
        due("of all: 35", -2, () -> x.judge(31));
        due("of 0 to 3: 1 and 3", 10, () -> x.judge(15));
    }

    private static void judgedBySetsWithCost() {
        CoalStreet x = told("step 1 10;step 2 6;", 1, 1, 1, 1);
        // Two 12, three 18, four 24.
        pays(x, 7, 7, 5, 5);
        due("0 and 1 leave", 3, () -> x.judge(15));
        x.bar(0, 1);
        due("they can't together", -1, () -> x.judge(15));
        x.bar(2, 3);
        pays(x, 7, 9, 5, 3);
        due("nor 0 and 1, and 1 and 2 leave", 6, () -> x.judge(15));
        x.trust(1, 2, false);
        x.trust(2, 1, false);
        due("nor without HOLDER", -1, () -> x.judge(15));
        Streets.tell(x, "step 2 6;");
        pays(x, 24, 0, 0, 0);
        due("who has no COST alone doesn't leave alone, but with another one", 5, () -> x.judge(15));
    }

    /** By the number of the set: not the least one, nor the one that pays most above its COST. */
    private static void judgedByTheirNumbers() {
        CoalStreet x = told("step 1 10;step 2 6;", 1, 1, 1, 1);
        pays(x, 0, 0, 12, 12);
        due("4 ahead of 8 and 12", 4, () -> x.judge(15));
        pays(x, 8, 5, 0, 11);
        due("3 ahead of 8", 3, () -> x.judge(15));
        pays(x, 5, 4, 8, 7);
        due("5 ahead of 12, which pays more", 5, () -> x.judge(15));
        pays(x, 9, 1, 3, 11);
        due("8 ahead of 9", 8, () -> x.judge(15));
        pays(x, 4, 10, 10, 0);
        due("3 ahead of 6", 3, () -> x.judge(15));
        pays(x, 1, 10, 10, 3);
        due("6 ahead of 7 and 10", 6, () -> x.judge(15));
    }

    // ---- "A PARTING of a set (2 to 5 HOUSEHOLDS that have a TOTAL): fractions, 0 or more, that are TOTAL together; it
    // HOLDS, if no set of these LEAVES."

    /** Whoever isn't of the set is no matter. */
    private static void partingsOfTheseAlone() {
        CoalStreet x = told("step 1 10;step 5 8;rule alike;", 3, 4, 1);
        String[] due = new String[5];
        for (int round = 0; round < 6; round++) {
            String[] got = new String[5];
            got[0] = Check.answer(() -> x.can(3)) + x.upper() + "/" + x.lower();
            x.share(3, 0, false);
            got[1] = x.upper() + "/" + x.lower();
            x.share(3, 1, true);
            got[2] = x.upper() + "/" + x.lower();
            x.row(3, 1);
            got[3] = x.upper() + "/" + x.lower();
            x.ruled(3, 1);
            got[4] = x.upper() + "/" + x.lower() + " " + x.keeps(3);
            for (int i = 0; i < 5; i++) {
                Check.same("answer " + i + " of 0 and 1 in round " + round, round == 0 ? got[i] : due[i], got[i]);
                due[i] = round == 0 ? got[i] : due[i];
            }
            switch (round) {
                case 0: x.want(2, 0, 8); break;
                case 1: x.bar(2, 0); break;
                case 2: x.cellar(2, 8); break;
                case 3: x.house(8); break;
                default: x.trust(2, 1, false);
            }
        }
    }

    // ---- promise 25: "MISSING: TOTAL less the most that fractions (0 or more) can be together by which no set of them
    // LEAVES"

    private static void missing(String what, CoalStreet x, int set, long upper, long lower) {
        due(what, upper == 0, () -> x.can(set));
        fraction(what, x, upper, lower);
    }

    private static void missingByHand() {
        CoalStreet x = told("step 1 1;cart 2 9;gather 1;", 1, 1, 1);
        // Alone 10; two 2 + 9 + 1 = 12; three 3 + 18 + 2 = 23, or 12 and 10 = 22: at most 6 each.
        missing("22 less 18", x, 7, 4, 1);
        Streets.tell(x, "step 1 1;cart 2 9;gather 2;");
        missing("23 less 19 and a half", x, 7, 7, 2);
        CoalStreet y = told("step 1 1;cart 4 20;", 2, 2, 2);
        // Alone 22; two 24; three 6 + 40 = 46: at most 12 each.
        missing("46 less 36", y, 7, 10, 1);
        y.want(2, 0, 1);
        // Alone 22, 22, 21; 0 and 1 24, with 2 23; three 45: at most half of 24 and 23 and 23.
        missing("45 less 35", y, 7, 10, 1);
        y.want(1, 0, 1);
        // Alone 22, 21, 21; 0 and 1 23, 0 and 2 23, 1 and 2 22; three 24.
        missing("all in one cart", y, 7, 0, 1);
        // Two pairs are 48, as four in one are: 12 each.
        CoalStreet z = told("step 1 1;cart 4 20;", 2, 2, 2, 2);
        missing("two pairs", z, 15, 0, 1);
        missing("three of four", z, 14, 10, 1);
        CoalStreet w = told("step 1 1;cart 4 20;", 2, 2, 2, 2, 2);
        // Five: 10 + 60, or 24, 24 and 22: at most 12 each.
        missing("70 less 60", w, 31, 10, 1);
        w.bar(0, 1);
        w.bar(1, 2);
        w.bar(2, 3);
        w.bar(3, 4);
        w.bar(4, 0);
        // Each is in two pairs, of those that are two apart: 12 each are the most.
        missing("round", w, 31, 10, 1);
        w.want(0, 0, 3);
        // 0 alone 23, and with none in one cart (5 sacks): 45, as apart; the others 24 for a pair: 1 and 3 or 4, 2 and 4.
        missing("four and one", w, 31, 0, 1);
    }

    private static void missingIsNothingWhereOneHolds() {
        int holding = 0;
        int some = 0;
        for (int seed = 0; seed < STREETS; seed++) {
            CoalStreet x = street(seed);
            for (int set = 3; set < 1 << x.count(0); set++) {
                if (Integer.bitCount(set) >= 2) {
                    boolean holds = x.can(set);
                    Check.same("MISSING is 0 just if one HOLDS", holds, x.upper() == 0);
                    Check.same("MISSING is less than TOTAL, or both are 0", true,
                            x.upper() <= x.lower() * x.least(set));
                    holding += holds ? 1 : 0;
                    some++;
                }
            }
        }
        System.out.println(holding + " of " + some + " hold");
        Check.same("in many none holds, in many one does", true, holding > some / 5 && holding < some * 9 / 10);
    }

    // ---- promise 26: "SHARES: the least and the greatest that a HOUSEHOLD pays in PARTINGS that HOLD"

    private static void shares(String what, CoalStreet x, int set, int house, long least, long most, long lower) {
        x.share(set, house, false);
        fraction(what + ": least", x, reduced(least, lower), reduced(lower, least));
        x.share(set, house, true);
        fraction(what + ": greatest", x, reduced(most, lower), reduced(lower, most));
    }

    private static long reduced(long number, long other) {
        long most = BigInteger.valueOf(number).gcd(BigInteger.valueOf(other)).longValue();
        return number / most;
    }

    private static void sharesByHand() {
        // Alone 30, 40; 56 together.
        CoalStreet x = told("step 1 10;step 5 8;", 3, 4, 1);
        shares("0 of two", x, 3, 0, 16, 30, 1);
        shares("1 of two", x, 3, 1, 26, 40, 1);
        // With 2: alone 10; 0 and 2 40, 1 and 2 40, all 64.
        shares("0 of three", x, 7, 0, 24, 30, 1);
        shares("1 of three", x, 7, 1, 24, 32, 1);
        shares("2 of three", x, 7, 2, 8, 10, 1);
        // Nobody gains by another one: just what each costs alone.
        CoalStreet y = told("step 1 10;", 1, 2, 3);
        for (int h = 0; h < 3; h++) {
            shares("as alone", y, 7, h, 10 * (h + 1), 10 * (h + 1), 1);
        }
        // Who can't alone may pay all.
        CoalStreet z = told("step 2 5;", 1, 1, 2);
        shares("0 of two that can't alone", z, 3, 0, 0, 10, 1);
        shares("1 of two that can't alone", z, 3, 1, 0, 10, 1);
        // 0 and 2 are 15, as 1 and 2 are, 2 alone 10, all 20.
        shares("0 of three", z, 7, 0, 5, 5, 1);
        shares("2 of three", z, 7, 2, 10, 10, 1);
    }

    /** Three of whom each two pay as much together as they can: the greatest are halves. */
    private static void sharesOfFractions() {
        CoalStreet x = told("step 1 10;step 2 6;gather 1;step 3 5;", 1, 1, 1);
        // Alone 10, two 13, three 17: one pays at least 4, and at most 17 - 8.
        shares("of three", x, 7, 0, 4, 9, 1);
        Streets.tell(x, "step 1 20;step 2 13;gather 1;step 3 12;");
        // Alone 20, two 27, three 38: one at least 11, and at most 38 - 22.
        shares("of three", x, 7, 1, 11, 16, 1);
        CoalStreet y = told("step 1 10;step 2 6;gather 3;step 3 7;step 4 6;", 1, 1, 1, 1);
        // Alone 10, two 15, three 25 or 27, four 30: each two pay 15, each one 7 and a half.
        for (int h = 0; h < 4; h++) {
            shares("of four", y, 15, h, 15, 15, 2);
        }
        CoalStreet z = told("step 1 40;step 2 11;step 3 7;gather 1;", 1, 1, 1);
        // Alone 40, two 23, three 23: one pays at most 23, at least 0.
        shares("three for two", z, 7, 2, 0, 23, 1);
    }

    // ---- promise 27: "FIRST ROW: of these the one in which the least HOUSEHOLD pays least, then the next one, and so on"

    private static void firstRow(String what, CoalStreet x, int set, long... due) {
        int at = 0;
        for (int h = 0; h < 7; h++) {
            if (has(set, h)) {
                x.row(set, h);
                fraction(what + ": " + h, x, reduced(due[at], due[due.length - 1]), reduced(due[due.length - 1], due[at]));
                at++;
            }
        }
    }

    private static void firstRowByHand() {
        CoalStreet x = told("step 1 10;step 5 8;", 3, 4, 1);
        firstRow("two", x, 3, 16, 40, 1);
        firstRow("three", x, 7, 24, 30, 10, 1);
        firstRow("1 and 2", x, 6, 30, 10, 1);
        x.want(2, 0, 2);
        // Alone 30, 40, 20; 0 and 1 56, 0 and 2 40, 1 and 2 48, all 72: 0 at least 24, then 1 at least 32, and 2 16.
        firstRow("three others", x, 7, 24, 32, 16, 1);
        firstRow("0 and 2", x, 5, 20, 20, 1);
        CoalStreet y = told("step 1 10;step 2 6;gather 3;step 3 7;step 4 6;", 1, 1, 1, 1);
        firstRow("halves", y, 15, 15, 15, 15, 15, 2);
        CoalStreet z = told("step 2 5;", 1, 1, 2);
        firstRow("who can't alone", z, 7, 5, 5, 10, 1);
        firstRow("two of them", z, 3, 0, 10, 1);
        // 0 pays nothing, 1 as little as 3 and 4 let it.
        CoalStreet w = told("step 1 9;step 4 5;step 5 4;gather 0;", 1, 1, 1, 1, 1);
        // Alone 9, two 18, three 27 (no 4), four 20, five 20.
        firstRow("the last ones pay", w, 31, 0, 0, 2, 9, 9, 1);
    }

    private static BigInteger[] told(CoalStreet x) {
        return new BigInteger[] {BigInteger.valueOf(x.upper()), BigInteger.valueOf(x.lower())};
    }

    private static BigInteger[] plus(BigInteger[] a, BigInteger[] b) {
        BigInteger up = a[0].multiply(b[1]).add(b[0].multiply(a[1]));
        BigInteger down = a[1].multiply(b[1]);
        BigInteger most = up.gcd(down);
        return new BigInteger[] {up.divide(most), down.divide(most)};
    }

    private static int compare(BigInteger[] a, BigInteger[] b) {
        return a[0].multiply(b[1]).compareTo(b[0].multiply(a[1]));
    }

    private static final BigInteger[] NOTHING = {BigInteger.ZERO, BigInteger.ONE};

    /** "a PARTING that HOLDS": what is paid in it is TOTAL together, and no set leaves, as judge() says. */
    private static void firstRowIsAParting() {
        int judged = 0;
        for (int seed = 0; seed < STREETS; seed++) {
            CoalStreet x = street(seed);
            for (int set = 3; set < 1 << x.count(0); set++) {
                if (Integer.bitCount(set) >= 2 && x.can(set)) {
                    BigInteger[][] row = new BigInteger[7][];
                    BigInteger[] all = NOTHING;
                    for (int h = 0; h < 7; h++) {
                        if (has(set, h)) {
                            x.row(set, h);
                            row[h] = told(x);
                            all = plus(all, row[h]);
                        }
                    }
                    Check.same("FIRST ROW is TOTAL together", x.least(set) + "/1", all[0] + "/" + all[1]);
                    judged += judgedAs(x, set, row, -1) ? 1 : 0;
                }
            }
        }
        Check.same("most are judged", true, judged > 200);
    }

    /** Tells all PAY, if they have a lower number that D may be, and asks judge(). */
    private static boolean judgedAs(CoalStreet x, int set, BigInteger[][] row, int due) {
        BigInteger d = BigInteger.ONE;
        for (int h = 0; h < 7; h++) {
            if (has(set, h)) {
                d = d.multiply(row[h][1]).divide(d.gcd(row[h][1]));
            }
        }
        for (int h = 0; h < 7; h++) {
            if (d.intValue() > 1000 || has(set, h) && row[h][0].multiply(d).divide(row[h][1]).intValue() > 100000) {
                return false;
            }
        }
        x.by(d.intValue());
        for (int h = 0; h < 7; h++) {
            if (has(set, h)) {
                x.pay(h, row[h][0].multiply(d).divide(row[h][1]).intValue());
            }
        }
        due("judged for " + set, due, () -> x.judge(set));
        return true;
    }

    private static void sharesHoldTheFirstRow() {
        for (int seed = 0; seed < STREETS; seed++) {
            CoalStreet x = street(seed);
            for (int set = 3; set < 1 << x.count(0); set++) {
                if (Integer.bitCount(set) >= 2 && x.can(set)) {
                    inShares(x, set);
                }
            }
        }
    }

    private static void inShares(CoalStreet x, int set) {
        BigInteger[] leasts = NOTHING;
        BigInteger[] mosts = NOTHING;
        for (int h = 0; h < 7; h++) {
            if (!has(set, h)) {
                continue;
            }
            x.share(set, h, false);
            BigInteger[] least = told(x);
            x.share(set, h, true);
            BigInteger[] most = told(x);
            x.row(set, h);
            BigInteger[] row = told(x);
            Check.same("the least isn't above the row", true, compare(least, row) <= 0);
            Check.same("the row isn't above the greatest", true, compare(row, most) <= 0);
            Check.same("the least is 0 or more", true, least[0].signum() >= 0);
            if (set == (set >> h) << h) {
                Check.same("the least HOUSEHOLD pays its least SHARE", 0, compare(least, row));
            }
            int alone = x.cost(1 << h);
            Check.same("nobody pays above its COST alone", true,
                    alone == -1 || compare(most, new BigInteger[] {BigInteger.valueOf(alone), BigInteger.ONE}) <= 0);
            leasts = plus(leasts, least);
            mosts = plus(mosts, most);
        }
        BigInteger[] total = {BigInteger.valueOf(x.least(set)), BigInteger.ONE};
        Check.same("the least ones aren't above TOTAL", true, compare(leasts, total) <= 0);
        Check.same("the greatest ones aren't below TOTAL", true, compare(total, mosts) <= 0);
    }

    // ---- promise 28: "WEIGHTS prove that none HOLDS: sets of these HOUSEHOLDS with COSTS, each with a number (0 or more)
    // over one lower number, so that for each HOUSEHOLD numbers of sets with it are that lower number or more together,
    // and COSTS times numbers are less than TOTAL times it."

    private static void proof(String what, boolean want, CoalStreet x, int set, int d, long... numbers) {
        Twins.lay(x, 2, 3, numbers);
        due(what, want, () -> x.proof(2, set, d));
    }

    private static void proofByHand() {
        // Alone 22, two 24, three 46, four 48.
        CoalStreet x = told("step 1 1;cart 4 20;", 2, 2, 2, 2);
        proof("each pair half: 36 are less than 46", true, x, 7, 2, 3, 1, 5, 1, 6, 1);
        proof("in another order", true, x, 7, 2, 6, 1, 3, 1, 5, 1);
        proof("more than need be: 23 pairs are less than 46 halves", false, x, 7, 2, 3, 1, 5, 1, 6, 1, 3, 1);
        proof("a pair and one alone: as much as TOTAL", false, x, 7, 1, 3, 1, 4, 1);
        proof("a pair and all: more than TOTAL", false, x, 7, 2, 3, 1, 7, 1);
        proof("a pair and nearly all", false, x, 7, 3, 3, 1, 5, 1, 6, 1);
        proof("of thirds two each", true, x, 7, 4, 3, 2, 5, 2, 6, 2);
        proof("a number is of the set ahead of it", false, x, 7, 2, 1, 3, 1, 5, 1, 6);
        proof("of four none: one HOLDS", false, x, 15, 2, 3, 1, 5, 1, 6, 1, 9, 1, 10, 1, 12, 1);
        proof("of 0, 1 and 3", true, x, 11, 2, 3, 1, 9, 1, 10, 1);
        proof("of two", false, x, 3, 1, 3, 1);
        x.bar(0, 1);
        proof("a pair that is BARRED", false, x, 7, 2, 3, 1, 5, 1, 6, 1);
        proof("the other pairs", false, x, 7, 1, 5, 1, 6, 1);
        proof("those of others", true, x, 14, 2, 6, 1, 10, 1, 12, 1);
    }

    /** The numbers count, not the sort of the TRAY, nor which one it is. */
    private static void proofOfEachSort() {
        for (int t = 0; t < 4; t++) {
            for (int sort = 0; sort < 4; sort++) {
                int tray = t;
                CoalStreet x = told("step 1 1;cart 4 20;", 2, 2, 2, 2);
                Twins.lay(x, tray, sort, 3, 1, 5, 1, 6, 1);
                due("sort " + sort, true, () -> x.proof(tray, 7, 2));
                due("of others", false, () -> x.proof(tray, 11, 2));
                due("another tray", false, () -> x.proof((tray + 1) % 4, 7, 2));
                x.write(tray, 5, 0);
                due("a number less", false, () -> x.proof(tray, 7, 2));
            }
        }
    }

    /** Where a PARTING HOLDS nothing proves that none does. */
    private static void proofIsRight() {
        int proofs = 0;
        for (int seed = 0; seed < STREETS; seed++) {
            CoalStreet x = street(seed);
            for (int set = 7; set < 1 << x.count(0); set++) {
                int some = set;
                int first = set & -set;
                int last = Integer.highestOneBit(set);
                for (int code = 0; code < 81 && Integer.bitCount(set) == 3; code++) {
                    Twins.lay(x, 3, 0, set ^ first, code % 3, set ^ last, code / 3 % 3, first | last, code / 9 % 3, set,
                            code / 27);
                    for (int d = 1; d <= 2; d++) {
                        if (x.proof(3, some, d)) {
                            proofs++;
                            due("one HOLDS though the contrary is proved", false, () -> x.can(some));
                        }
                    }
                }
            }
        }
        System.out.println(proofs + " proofs");
        Check.same("there are proofs", true, proofs > 20);
    }

    /** Of three it is always by pairs (and all, and one alone) over 2, if none HOLDS. */
    private static void proofIsAlwaysThere() {
        int found = 0;
        for (int seed = 0; seed < STREETS; seed++) {
            CoalStreet x = street(seed);
            if (!x.can(7)) {
                boolean proved = false;
                for (int code = 0; code < 2187 && !proved; code++) {
                    long[] numbers = new long[14];
                    int many = 0;
                    int rest = code;
                    for (int set = 1; set <= 7; set++) {
                        if (x.cost(set) >= 0) {
                            numbers[many++] = set;
                            numbers[many++] = rest % 3;
                        }
                        rest /= 3;
                    }
                    Twins.lay(x, 0, 0, Arrays.copyOf(numbers, many));
                    proved = x.proof(0, 7, 2);
                }
                Check.same("it is proved that none HOLDS in " + seed, true, proved);
                found++;
            }
        }
        Check.same("there are some", true, found > 5);
    }

    // ---- promise 29: "RULE: parts: TOTAL is paid by all WANTS in MONTHS that count; alone: by COSTS of each alone;
    // alike: alike (so, too, if these are all 0)."

    private static void ruled(String what, CoalStreet x, int set, int house, long upper, long lower) {
        x.ruled(set, house);
        fraction(what, x, upper, lower);
    }

    private static void ruledByHand() {
        CoalStreet x = told("step 1 10;step 6 5;months 2;rise 1 2;rule parts;", 1, 3, 2);
        x.want(0, 1, 4);
        x.want(0, 2, 8);
        // 6 in month 0 are 30, 4 in month 1 are 48.
        due("TOTAL", 78, () -> x.least(7));
        ruled("5 of 10 sacks", x, 7, 0, 39, 1);
        ruled("3 of 10 sacks", x, 7, 1, 117, 5);
        ruled("2 of 10 sacks", x, 7, 2, 78, 5);
        // Of 0 and 2: 30 and 48.
        ruled("5 of 7 sacks", x, 5, 0, 390, 7);
        Streets.tell(x, "step 1 10;step 6 5;months 2;rise 1 2;rule alone;");
        // Alone 10 + 48, 30, 20.
        ruled("58 of 108", x, 7, 0, 78 * 58 / 12, 9);
        ruled("30 of 108", x, 7, 1, 65, 3);
        ruled("58 of 78", x, 5, 0, 58, 1);
        Streets.tell(x, "step 1 10;step 6 5;months 2;rise 1 2;rule alike;");
        ruled("a third", x, 7, 0, 26, 1);
        ruled("a half", x, 5, 0, 39, 1);
        ruled("all", x, 1, 0, 58, 1);
        Streets.tell(x, "step 1 10;step 6 5;rule parts;");
        ruled("one month: 1 of 6 for 30", x, 7, 0, 5, 1);
        ruled("three of 6", x, 7, 1, 15, 1);
        // By what is wanted, not by what is bought, nor by cellars; who wants nothing pays nothing of gathering.
        CoalStreet y = told("step 5 4;gather 3;rule parts;", 2, 1, 0);
        y.cellar(2, 2);
        due("TOTAL", 20 + 6, () -> y.least(7));
        ruled("2 of 3", y, 7, 0, 52, 3);
        ruled("1 of 3", y, 7, 1, 26, 3);
        ruled("0 of 3", y, 7, 2, 0, 1);
        // Nobody wants anything: what gathering costs isn't paid, as each buys alone.
        CoalStreet z = told("step 1 1;gather 5;rule parts;", 0, 0, 4);
        ruled("nothing alike", z, 3, 0, 0, 1);
        ruled("who wants nothing", z, 7, 1, 0, 1);
        ruled("who wants all", z, 7, 2, 4, 1);
        // All COSTS alone are 0, and together it costs nothing, either.
        Streets.tell(z, "step 1 1;gather 5;rule alone;");
        ruled("nothing alike", z, 3, 1, 0, 1);
    }

    private static void ruledTogetherIsTotal() {
        for (int seed = 0; seed < STREETS; seed++) {
            CoalStreet x = street(seed);
            for (int set = 1; set < 1 << x.count(0); set++) {
                BigInteger[] all = NOTHING;
                for (int h = 0; h < 7; h++) {
                    if (has(set, h)) {
                        x.ruled(set, h);
                        all = plus(all, told(x));
                    }
                }
                Check.same("RULE is TOTAL together", x.least(set) + "/1", all[0] + "/" + all[1]);
            }
        }
    }

    // ---- promise 30: "The first set (by its number) of a set's HOUSEHOLDS that LEAVES, when all pay by RULE"

    private static void keepsAsJudged() {
        int judged = 0;
        int leaving = 0;
        for (int seed = 0; seed < STREETS; seed++) {
            CoalStreet x = street(seed);
            for (int set = 1; set < 1 << x.count(0); set++) {
                BigInteger[][] row = new BigInteger[7][];
                for (int h = 0; h < 7; h++) {
                    if (has(set, h)) {
                        x.ruled(set, h);
                        row[h] = told(x);
                    }
                }
                int keeps = x.keeps(set);
                judged += judgedAs(x, set, row, keeps) ? 1 : 0;
                leaving += keeps >= 0 ? 1 : 0;
            }
        }
        Check.same("most are judged, and many leave", true, judged > 400 && leaving > 100);
    }

    private static void keepsWhereNoneHolds() {
        for (int seed = 0; seed < STREETS; seed++) {
            CoalStreet x = street(seed);
            for (int set = 3; set < 1 << x.count(0); set++) {
                if (Integer.bitCount(set) >= 2 && !x.can(set)) {
                    int some = set;
                    due("where none HOLDS some set leaves", true, () -> x.keeps(some) > 0);
                    due("there is no SHARE", Twins.ISE, () -> {
                        x.share(some, Integer.numberOfTrailingZeros(some), true);
                        return 0;
                    });
                    due("there is no FIRST ROW", Twins.ISE, () -> {
                        x.row(some, Integer.numberOfTrailingZeros(some));
                        return 0;
                    });
                }
            }
        }
    }

    // ---- each of these calls tells of the street as it is now, whatever was asked before.

    private static String answers(CoalStreet x) {
        StringBuilder all = new StringBuilder();
        for (int s = 1; s < 32; s++) {
            int set = s;
            all.append(Check.answer(() -> x.judge(set))).append(Check.answer(() -> x.keeps(set)));
            all.append(Check.answer(() -> x.can(set) + " " + x.upper() + "/" + x.lower()));
            for (int i = 0; i < 5; i++) {
                int h = i;
                all.append(Check.answer(() -> {
                    x.share(set, h, true);
                    return x.upper() + "/" + x.lower();
                })).append(Check.answer(() -> {
                    x.row(set, h);
                    return x.upper() + "/" + x.lower();
                })).append(Check.answer(() -> {
                    x.ruled(set, h);
                    return x.upper() + "/" + x.lower();
                }));
            }
            all.append(Check.answer(() -> x.proof(2, set, 2))).append("; ");
        }
        return all.toString();
    }

    private static CoalStreet five() {
        CoalStreet x = told("step 1 10;step 4 7;step 9 6;gather 2;months 2;rule alone;", 3, 1, 4, 1, 5);
        x.bar(1, 3);
        pays(x, 30, 10, 28, 10, 35);
        x.image(0);
        x.want(0, 1, 2);
        Twins.lay(x, 2, 0, 3, 1, 5, 1, 6, 1);
        Twins.lay(x, 0, 0, 1, 2);
        return x;
    }

    private static void answersAreOfNow() {
        Twins.Use[] changes = {x -> x.want(0, 0, 8), x -> x.want(4, 1, 3), x -> x.cellar(0, 8), x -> x.bar(0, 4),
            x -> {
                x.trust(0, 4, false);
                return x.trust(4, 0, false);
            }, x -> x.take(0, 2), x -> x.bar(2, 3),
            Twins.act(x -> x.restore(0)), x -> Streets.tell(x, "step 1 9;gather 3;rule alike;"),
            x -> Streets.tell(x, "step 3 9;"), x -> x.pay(0, 50), x -> x.by(2)};
        for (int i = 0; i < changes.length; i++) {
            CoalStreet asked = five();
            CoalStreet fresh = five();
            String before = answers(asked);
            changes[i].of(asked);
            changes[i].of(fresh);
            String due = answers(fresh);
            Twins.like("answers behind change " + i, due, answers(asked));
            Check.same("change " + i + " is one", false, due.equals(before));
        }
    }
}
