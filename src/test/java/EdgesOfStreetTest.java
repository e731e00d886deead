import java.util.function.Supplier;

/** The edges that promises 1 to 8 name, and the terms of HOUSEHOLDS, BARRED, TRUST, HOLDER and CHAIN: each by itself. */
public final class EdgesOfStreetTest {
    private static final String NSE = Twins.NSE;
    private static final String IAE = Twins.IAE;
    private static final String ISE = Twins.ISE;
    private static final int BIG = Twins.BIG;
    private static final int SMALL = Twins.SMALL;

    private EdgesOfStreetTest() {
    }

    public static void main(String[] args) {
        newNothingIsTold();
        newWithoutHouseholds();
        newTraysAreMissing();
        newEmptyTape();
        newNoFraction();
        newNoImages();
        newHouseholdIsPlain();
        houseNumbers();
        houseSeven();
        houseCellar();
        wantHousehold();
        wantMonth();
        wantSacks();
        wantWas();
        wantOfMonthsThatDoNotCount();
        cellarHousehold();
        cellarSacks();
        cellarWas();
        barAnswers();
        barHouseholds();
        barBothOne();
        barNeverInOneGroup();
        trustWas();
        trustHouseholds();
        trustBothOne();
        holderOfOne();
        holderLeast();
        holderNone();
        holderSets();
        chainToItself();
        chainLongest();
        chainNone();
        chainFewest();
        chainHouseholds();
        Check.end();
    }

    private static void due(String what, Object want, Check.Call call) {
        Check.due(what, want, call);
    }

    private static CoalStreet some(int n) {
        CoalStreet x = new CoalStreet();
        for (int i = 0; i < n; i++) {
            x.house(0);
        }
        return x;
    }

    private static Supplier<CoalStreet> makerOf(int n) {
        return () -> some(n);
    }

    // ---- promise 1: "Nothing is told; TRAYS are MISSING; an empty tape; no FRACTION."

    private static void newNothingIsTold() {
        CoalStreet x = new CoalStreet();
        int[] counts = {0, 0, 0, 1, 0, 0, 0, 0, 0, 0};
        for (int i = 0; i < counts.length; i++) {
            int what = i;
            due("count(" + i + ") of a new one", counts[i], () -> x.count(what));
        }
        due("D at first", 1, () -> x.by(1));
        due("the FAULT at first", 0, () -> x.fault(0));
        due("its place at first", -1, () -> x.fault(1));
        for (int q = 1; q <= 200; q++) {
            int sacks = q;
            due("no steps at first", -1, () -> x.price(sacks));
        }
        for (int m = 0; m < 6; m++) {
            int month = m;
            due("BUYS of 0 at first", 0, () -> x.buys(0, month));
            due("BUYS of 200 at first", -1, () -> x.buys(200, month));
        }
    }

    private static void newWithoutHouseholds() {
        Supplier<CoalStreet> maker = CoalStreet::new;
        for (int h : new int[] {0, 1, 6, 7, -1}) {
            Twins.stays("want without households", NSE, maker, x -> x.want(h, 0, 1));
            Twins.stays("cellar without households", NSE, maker, x -> x.cellar(h, 1));
            Twins.stays("bar without households", NSE, maker, x -> x.bar(h, 1));
            Twins.stays("trust without households", NSE, maker, x -> x.trust(h, 1, true));
            Twins.stays("chain without households", NSE, maker, x -> x.chain(h, h));
            Twins.stays("come without households", NSE, maker, x -> x.come(1, h));
            Twins.stays("pay without households", NSE, maker, x -> x.pay(h, 1));
            Twins.stays("doubt without households", NSE, maker, x -> x.doubt(h, 1, 1));
            Twins.stays("take without households", NSE, maker, x -> x.take(0, h));
        }
        for (int set : new int[] {0, 1, 127, 128, -1}) {
            Twins.stays("holder without households", IAE, maker, x -> x.holder(set));
            Twins.stays("cost without households", IAE, maker, x -> x.cost(set));
            Twins.stays("bought without households", IAE, maker, x -> x.bought(set, 0));
            Twins.stays("least without households", IAE, maker, x -> x.least(set));
            Twins.stays("group without households", IAE, maker, x -> x.group(set, 0));
            Twins.stays("join without households", IAE, maker, x -> x.join(set, 2, 0));
            Twins.stays("judge without households", IAE, maker, x -> x.judge(set));
            Twins.stays("can without households", IAE, maker, x -> x.can(set));
            Twins.stays("ruled without households", IAE, maker, Twins.act(x -> x.ruled(set, 0)));
            Twins.stays("keeps without households", IAE, maker, x -> x.keeps(set));
            Twins.stays("risk without households", IAE, maker, x -> x.risk(set, 0));
            Twins.stays("before without households", IAE, maker, x -> x.before(set));
            Twins.stays("seller without households", IAE, maker, x -> x.seller(set, 2, 0, 0));
        }
    }

    private static void newTraysAreMissing() {
        for (int t = 0; t < 4; t++) {
            int tray = t;
            Twins.stays("write to the missing tray " + t, ISE, CoalStreet::new, x -> x.write(tray, 0, 1));
            Twins.stays("take of the missing tray " + t, ISE, makerOf(1), x -> x.take(tray, 0));
            CoalStreet y = some(2);
            due("proof by the missing tray " + t, false, () -> y.proof(tray, 3, 1));
        }
    }

    private static void newEmptyTape() {
        due("bytes on the tape", 0, () -> new CoalStreet().count(4));
        due("the first 0 bytes", 0, () -> new CoalStreet().text(0));
        Twins.stays("the first byte", IAE, CoalStreet::new, x -> x.text(1));
        due("the first bytes on it", 20, () -> new CoalStreet().feed(0, 0, 0, 0, 0));
    }

    private static void newNoFraction() {
        due("upper() at first", 0, () -> new CoalStreet().upper());
        due("lower() at first", 0, () -> new CoalStreet().lower());
    }

    private static void newNoImages() {
        for (int i = 0; i < 3; i++) {
            int image = i;
            Twins.stays("restore(" + i + ") at first", ISE, CoalStreet::new, Twins.act(x -> x.restore(image)));
        }
    }

    private static void newHouseholdIsPlain() {
        CoalStreet x = some(7);
        for (int i = 0; i < 7; i++) {
            int h = i;
            due("PAY at first", 0, () -> x.pay(h, 0));
            due("DOUBTS at first", 1, () -> x.doubt(h, 0, 1));
            for (int m = 0; m < 6; m++) {
                int month = m;
                due("WANT at first", 0, () -> x.want(h, month, 0));
            }
            for (int j = 0; j < 7; j++) {
                int g = j;
                if (j != i) {
                    due("TRUST at first", false, () -> x.trust(h, g, false));
                }
                if (j > i) {
                    due("not BARRED at first", true, () -> x.bar(h, g));
                }
            }
        }
    }

    // ---- promise 2: "A HOUSEHOLD more: its number; NONE if there are 7. IllegalArgumentException: CELLAR."

    private static void houseNumbers() {
        CoalStreet x = new CoalStreet();
        for (int i = 0; i < 7; i++) {
            int due = i;
            due("the number of household " + i, due, () -> x.house(due));
            due("count(0)", due + 1, () -> x.count(0));
        }
        for (int i = 0; i < 7; i++) {
            int h = i;
            due("the cellar that was told", h, () -> x.cellar(h, 0));
        }
    }

    private static void houseSeven() {
        due("the seventh", 6, () -> some(6).house(8));
        Twins.stays("the eighth", -1, makerOf(7), x -> x.house(8));
        Twins.stays("the eighth, and one more", -1, makerOf(7), x -> {
            x.house(1);
            return x.house(2);
        });
    }

    private static void houseCellar() {
        for (int n = 0; n < 7; n++) {
            int has = n;
            for (int sacks = 0; sacks <= 8; sacks += 8) {
                int cellar = sacks;
                due("house(" + sacks + ")", n, () -> some(has).house(cellar));
            }
        }
        for (int n = 0; n <= 7; n++) {
            for (int sacks : new int[] {-1, 9, -8, 16, 256, SMALL, BIG}) {
                Twins.stays("house(" + sacks + ") with " + n, IAE, makerOf(n), x -> x.house(sacks));
            }
        }
        Twins.stays("house(-1)", IAE, x -> x.house(-1));
        Twins.stays("house(9)", IAE, x -> x.house(9));
    }

    // ---- promise 3: "WANT of a HOUSEHOLD in a MONTH: what it was. NoSuchElementException: no such HOUSEHOLD (as
    // everywhere), MONTH; IllegalArgumentException: sacks."

    private static void wantHousehold() {
        for (int n = 1; n <= 7; n++) {
            int last = n - 1;
            due("want of the first of " + n, 0, () -> some(last + 1).want(0, 0, 1));
            due("want of the last of " + n, 0, () -> some(last + 1).want(last, 0, 1));
            Twins.stays("want of one behind the last of " + n, NSE, makerOf(n), x -> x.want(last + 1, 0, 1));
        }
        Twins.noHouses("want", NSE, (x, h) -> x.want(h, 0, 1));
        Twins.noHouses("want with a wrong month and wrong sacks", NSE, (x, h) -> x.want(h, 6, 9));
        Twins.noHouses("want with wrong sacks", NSE, (x, h) -> x.want(h, 0, -1));
    }

    private static void wantMonth() {
        due("want in the first month", 3, () -> Twins.rich().want(0, 0, 1));
        due("want in the last month", 7, () -> Twins.rich().want(4, 5, 1));
        for (int month : new int[] {-1, 6, 7, -6, SMALL, BIG}) {
            Twins.stays("want in month " + month, NSE, x -> x.want(4, month, 1));
            Twins.stays("want in month " + month + " with wrong sacks", NSE, x -> x.want(4, month, 9));
        }
    }

    private static void wantSacks() {
        for (int month = 0; month < 6; month++) {
            int m = month;
            CoalStreet y = some(1);
            due("want 8 in month " + m, 0, () -> y.want(0, m, 8));
            due("want 0 in month " + m, 8, () -> y.want(0, m, 0));
            due("it was 0", 0, () -> y.want(0, m, 1));
        }
        for (int sacks : new int[] {-1, 9, 256, SMALL, BIG}) {
            Twins.stays("want " + sacks, IAE, x -> x.want(0, 0, sacks));
            Twins.stays("want " + sacks + " in the last month", IAE, x -> x.want(4, 5, sacks));
        }
    }

    /** Of each household in each month by itself. */
    private static void wantWas() {
        CoalStreet x = some(7);
        for (int i = 0; i < 42; i++) {
            int at = i;
            due("want at first", 0, () -> x.want(at / 6, at % 6, at * 5 % 9));
        }
        for (int i = 0; i < 42; i++) {
            int at = i;
            due("want of " + i / 6 + " in " + i % 6, at * 5 % 9, () -> x.want(at / 6, at % 6, at * 4 % 9));
        }
        for (int i = 0; i < 42; i++) {
            int at = i;
            due("want of " + i / 6 + " in " + i % 6 + " later", at * 4 % 9, () -> x.want(at / 6, at % 6, 0));
        }
    }

    private static void wantOfMonthsThatDoNotCount() {
        CoalStreet x = some(1);
        Streets.tell(x, "step 1 10;months 2;");
        x.want(0, 1, 3);
        due("the last month that counts", 30, () -> x.cost(1));
        due("a month that doesn't can be told", 0, () -> x.want(0, 2, 5));
        due("it costs nothing", 30, () -> x.cost(1));
        Streets.tell(x, "step 1 10;months 3;");
        due("until it counts", 80, () -> x.cost(1));
    }

    // ---- promise 4: "CELLAR of a HOUSEHOLD: what it was."

    private static void cellarHousehold() {
        for (int n = 1; n <= 7; n++) {
            int last = n - 1;
            due("cellar of the first of " + n, 0, () -> some(last + 1).cellar(0, 1));
            due("cellar of the last of " + n, 0, () -> some(last + 1).cellar(last, 1));
            Twins.stays("cellar of one behind the last of " + n, NSE, makerOf(n), x -> x.cellar(last + 1, 1));
        }
        Twins.noHouses("cellar", NSE, (x, h) -> x.cellar(h, 1));
        Twins.noHouses("cellar with wrong sacks", NSE, (x, h) -> x.cellar(h, 9));
    }

    private static void cellarSacks() {
        due("cellar 0", 8, () -> Twins.rich().cellar(2, 0));
        due("cellar 8", 2, () -> Twins.rich().cellar(0, 8));
        for (int sacks : new int[] {-1, 9, 256, SMALL, BIG}) {
            Twins.stays("cellar " + sacks, IAE, x -> x.cellar(0, sacks));
            Twins.stays("cellar of the last one " + sacks, IAE, x -> x.cellar(4, sacks));
        }
    }

    private static void cellarWas() {
        CoalStreet x = some(7);
        for (int i = 0; i < 7; i++) {
            int h = i;
            due("cellar at first", 0, () -> x.cellar(h, 8 - h));
        }
        for (int i = 0; i < 7; i++) {
            int h = i;
            due("cellar that was told", 8 - h, () -> x.cellar(h, 0));
            due("cellar told again", 0, () -> x.cellar(h, 0));
        }
    }

    // ---- promise 5: "Two are BARRED: true; false if they were. IllegalArgumentException: both are one."

    private static void barAnswers() {
        for (int i = 0; i < 7; i++) {
            for (int j = 0; j < 7; j++) {
                int a = i;
                int b = j;
                if (a == b) {
                    continue;
                }
                CoalStreet x = some(7);
                due("bar", true, () -> x.bar(a, b));
                due("bar again", false, () -> x.bar(a, b));
                due("bar the other way round", false, () -> x.bar(b, a));
                due("bar others", true, () -> x.bar(a, other(a, b)));
            }
        }
    }

    private static int other(int a, int b) {
        for (int i = 0; i < 3; i++) {
            if (i != a && i != b) {
                return i;
            }
        }
        return 3;
    }

    private static void barHouseholds() {
        Twins.noHouses("bar from the first", NSE, (x, h) -> x.bar(h, 0));
        Twins.noHouses("bar of the first", NSE, (x, h) -> x.bar(0, h));
        Twins.noHouses("bar of one that isn't and itself", NSE, (x, h) -> x.bar(h, h));
        due("bar of the first and the last", true, () -> Twins.rich().bar(0, 4));
        due("bar of the last and the first", true, () -> Twins.rich().bar(4, 0));
    }

    private static void barBothOne() {
        for (int i = 0; i < 5; i++) {
            int h = i;
            Twins.stays("bar of " + i + " and itself", IAE, x -> x.bar(h, h));
        }
    }

    /** "Two may be BARRED (they never buy in one group)": each two, in each set with both. */
    private static void barNeverInOneGroup() {
        for (int i = 0; i < 4; i++) {
            for (int j = i + 1; j < 4; j++) {
                CoalStreet x = Streets.trusting(1, 1, 1, 1);
                Streets.tell(x, "step 1 10;");
                x.bar(j, i);
                int both = 1 << i | 1 << j;
                for (int set = 1; set < 16; set++) {
                    int some = set;
                    int sacks = Integer.bitCount(set);
                    due("cost of " + set + " without " + both, (set & both) == both ? -1 : 10 * sacks,
                            () -> x.cost(some));
                    due("total of " + set + " without " + both, 10 * sacks, () -> x.least(some));
                    due("groups of " + set + " without " + both, (set & both) == both ? 2 : 1,
                            () -> x.group(some, -1));
                }
            }
        }
    }

    // ---- promise 6: "One TRUSTS another one, or not: what it was. IllegalArgumentException: both are one."

    private static void trustWas() {
        CoalStreet x = some(7);
        for (int i = 0; i < 49; i++) {
            int a = i / 7;
            int b = i % 7;
            if (a != b) {
                due("trust at first", false, () -> x.trust(a, b, (a * 3 + b) % 2 == 0));
            }
        }
        for (int i = 0; i < 49; i++) {
            int a = i / 7;
            int b = i % 7;
            if (a != b) {
                due("trust of " + a + " in " + b, (a * 3 + b) % 2 == 0, () -> x.trust(a, b, false));
                due("trust no more", false, () -> x.trust(a, b, true));
                due("trust again", true, () -> x.trust(a, b, true));
            }
        }
    }

    private static void trustHouseholds() {
        for (int i = 0; i < 2; i++) {
            boolean is = i == 0;
            Twins.noHouses("trust of", NSE, (x, h) -> x.trust(h, 0, is));
            Twins.noHouses("trust in", NSE, (x, h) -> x.trust(0, h, is));
            Twins.noHouses("trust of one that isn't in itself", NSE, (x, h) -> x.trust(h, h, is));
        }
        due("trust of the last in the first", true, () -> Twins.rich().trust(4, 0, true));
        due("trust of the first in the last", false, () -> Twins.rich().trust(0, 4, true));
    }

    private static void trustBothOne() {
        for (int i = 0; i < 5; i++) {
            int h = i;
            Twins.stays("trust of " + i + " in itself", IAE, x -> x.trust(h, h, true));
            Twins.stays("no trust of " + i + " in itself", IAE, x -> x.trust(h, h, false));
        }
    }

    // ---- promise 7: "HOLDER of a set (of one: that one); NONE."

    private static void holderOfOne() {
        CoalStreet x = some(7);
        for (int i = 0; i < 7; i++) {
            int h = i;
            due("holder of " + i + " alone, whom nobody trusts", h, () -> x.holder(1 << h));
        }
    }

    /** "the least of it whom all others of it TRUST" */
    private static void holderLeast() {
        CoalStreet x = Streets.trusting(0, 0, 0, 0, 0, 0, 0);
        for (int i = 0; i < 7; i++) {
            int h = i;
            due("holder of all from " + i + " on", h, () -> x.holder(127 & -(1 << h)));
        }
        for (int i = 0; i < 6; i++) {
            int h = i;
            x.trust(6, i, false);
            due("the next one, as the last one doesn't trust " + i, h + 1, () -> x.holder(127));
        }
        due("of those without the last one it is the first", 0, () -> x.holder(63));
    }

    private static void holderNone() {
        CoalStreet x = Streets.trusting(0, 0, 0, 0, 0, 0, 0);
        for (int i = 0; i < 7; i++) {
            x.trust((i + 1) % 7, i, false);
        }
        due("each one is trusted by all others but one", -1, () -> x.holder(127));
        due("of those without that one it is the first", 0, () -> x.holder(125));
        CoalStreet y = some(2);
        due("of two without trust", -1, () -> y.holder(3));
        y.trust(0, 1, true);
        due("of two with trust in the second one", 1, () -> y.holder(3));
        CoalStreet z = some(3);
        z.trust(0, 2, true);
        z.trust(1, 2, true);
        due("one whom all trust doesn't hold for a set without it", -1, () -> z.holder(3));
    }

    private static void holderSets() {
        Twins.noSets("holder", CoalStreet::holder);
        for (int n = 1; n <= 7; n++) {
            Twins.noSets("holder", n, makerOf(n), CoalStreet::holder);
        }
    }

    // ---- promise 8: "CHAIN: how many steps (0 from one to itself); NONE."

    private static void chainToItself() {
        CoalStreet x = some(7);
        CoalStreet y = Streets.trusting(0, 0, 0, 0, 0, 0, 0);
        for (int i = 0; i < 7; i++) {
            int h = i;
            due("chain from " + i + " to itself", 0, () -> x.chain(h, h));
            due("chain to itself where all trust", 0, () -> y.chain(h, h));
        }
    }

    private static void chainLongest() {
        CoalStreet x = some(7);
        int[] way = {3, 6, 0, 5, 1, 4, 2};
        for (int i = 0; i < 6; i++) {
            x.trust(way[i], way[i + 1], true);
        }
        for (int i = 0; i < 7; i++) {
            for (int j = 0; j < 7; j++) {
                int a = way[i];
                int b = way[j];
                int due = i <= j ? j - i : -1;
                due("chain from " + a + " to " + b, due, () -> x.chain(a, b));
            }
        }
        x.trust(way[6], way[0], true);
        due("all round but one", 6, () -> x.chain(way[1], way[0]));
    }

    private static void chainNone() {
        CoalStreet x = some(2);
        due("nobody trusts", -1, () -> x.chain(0, 1));
        x.trust(1, 0, true);
        due("trust the other way round", -1, () -> x.chain(0, 1));
        due("trust this way", 1, () -> x.chain(1, 0));
        x.trust(1, 0, false);
        due("trust no more", -1, () -> x.chain(1, 0));
    }

    private static void chainFewest() {
        CoalStreet x = some(7);
        for (int i = 0; i < 6; i++) {
            x.trust(i, i + 1, true);
        }
        x.trust(0, 4, true);
        due("by the shorter way", 3, () -> x.chain(0, 6));
        x.trust(0, 5, true);
        due("by a still shorter way", 2, () -> x.chain(0, 6));
        x.trust(0, 6, true);
        due("in one step", 1, () -> x.chain(0, 6));
    }

    private static void chainHouseholds() {
        Twins.noHouses("chain from", NSE, (x, h) -> x.chain(h, 0));
        Twins.noHouses("chain to", NSE, (x, h) -> x.chain(0, h));
        Twins.noHouses("chain from one that isn't to itself", NSE, (x, h) -> x.chain(h, h));
        due("chain from the last to the first", 1, () -> Twins.rich().chain(4, 0));
        due("chain from the first to the last", -1, () -> Twins.rich().chain(0, 4));
    }
}
