import java.util.Random;

/** Runs of random calls, each with the answer of the plain model; the seeds are fixed. */
public final class OracleTest {
    private static final int RUNS = 400;

    private final Random dice;
    private final CoalStreet x = new CoalStreet();
    private final Plain y = new Plain();
    private final String run;
    private int calls = 0;
    private final StringBuilder told = new StringBuilder();

    private OracleTest(int seed) {
        dice = new Random(seed);
        run = "run " + seed;
    }

    public static void main(String[] args) {
        int runs = args.length > 0 ? Integer.parseInt(args[0]) : RUNS;
        int first = args.length > 1 ? Integer.parseInt(args[1]) : 1;
        for (int seed = first; seed < first + runs; seed++) {
            int was = Check.wrongSoFar();
            OracleTest test = new OracleTest(seed);
            test.go();
            if (Check.wrongSoFar() != was) {
                System.out.println(test.run + ": " + test.told);
            }
        }
        greatest();
        Check.end();
    }

    /** A street of which all is as great as can be. */
    private static void greatest() {
        OracleTest test = new OracleTest(0);
        for (int i = 0; i < 7; i++) {
            test.house(8);
            for (int m = 0; m < 6; m++) {
                test.want(i, m, 8);
            }
            for (int j = 0; j < i; j++) {
                test.trust(i, j, true);
                test.trust(j, i, true);
            }
        }
        String[] texts = {"step 1 99;cart 1 99;gather 99;keep 99;months 6;rise 1 99;rise 2 98;rise 3 99;rise 5 99;",
            "step 1 99;step 60 1;months 6;rise 1 99;rise 2 99;rise 3 99;rise 5 99;late 999;",
            "above;step 1 9;step 40 1;step 50 99;cart 30 99;cart 50 1;months 6;keep 1;"};
        for (String text : texts) {
            test.tell(text);
            for (int set : new int[] {127, 63, 64, 126, 85}) {
                test.both("cost", () -> test.x.cost(set), () -> test.y.cost(set));
                test.both("least", () -> test.x.least(set), () -> test.y.least(set));
                for (int m = -1; m < 6; m++) {
                    int month = m;
                    test.both("bought", () -> test.x.bought(set, month), () -> test.y.bought(set, month));
                }
            }
            test.both("can", () -> test.x.can(31), () -> test.y.can(31));
            test.fraction();
        }
    }

    private void both(String call, Check.Call one, Check.Call other) {
        calls++;
        told.append(call).append("; ");
        Check.same(run + ", call " + calls + ": " + call, Check.answer(other), Check.answer(one));
        if (dice.nextInt(3) == 0) {
            fraction();
        }
    }

    private void fraction() {
        calls += 2;
        Check.same(run + ", upper()", y.upper(), x.upper());
        Check.same(run + ", lower()", y.lower(), x.lower());
    }

    private static Check.Call act(Runnable run) {
        return () -> {
            run.run();
            return null;
        };
    }

    /** From low to high; now and then beyond, or far away. */
    private int near(int low, int high) {
        int kind = dice.nextInt(60);
        if (kind == 0) {
            return low - 1;
        }
        if (kind == 1) {
            return high + 1;
        }
        if (kind == 2) {
            return new int[] {Integer.MIN_VALUE, Integer.MAX_VALUE, -1, 128, 64, -128}[dice.nextInt(6)];
        }
        return kind == 3 ? high : kind == 4 ? low : low + dice.nextInt(high - low + 1);
    }

    private int someHouse() {
        return near(0, Math.max(0, y.houses.size() - 1));
    }

    private int someSet() {
        int all = (1 << y.houses.size()) - 1;
        return dice.nextInt(6) == 0 && all > 0 ? all : near(1, Math.max(1, all));
    }

    /** Often of as few as partings can be of. */
    private int fewSet(int most) {
        int set = someSet();
        for (int i = 0; i < 7 && dice.nextInt(40) != 0 && set > 0 && Integer.bitCount(set) > most; i++) {
            set &= ~(1 << dice.nextInt(7));
        }
        return set;
    }

    private int size;

    private void go() {
        size = 1 + dice.nextInt(7);
        boolean small = dice.nextInt(3) > 0;
        int n = 1 + dice.nextInt(size);
        for (int i = 0; i < n; i++) {
            house(dice.nextInt(3) == 0 ? dice.nextInt(9) : dice.nextInt(3));
        }
        int months = dice.nextInt(3) == 0 ? 6 : 2;
        for (int i = 0; i < n; i++) {
            for (int m = 0; m < months; m++) {
                want(i, m, small ? dice.nextInt(3) : dice.nextInt(9));
            }
        }
        int trust = dice.nextInt(4) == 0 ? 2 : 9;
        for (int i = 0; i < n; i++) {
            for (int j = 0; j < n; j++) {
                if (i != j && dice.nextInt(10) < trust) {
                    trust(i, j, true);
                }
            }
        }
        text(false);
        int most = 150 + dice.nextInt(300);
        while (calls < most) {
            one();
        }
    }

    private void one() {
        int kind = dice.nextInt(100);
        if (kind < 6) {
            text(dice.nextInt(3) == 0);
        } else if (kind < 16) {
            change(dice.nextInt(9));
        } else if (kind < 30) {
            small(dice.nextInt(8));
        } else if (kind < 55) {
            sets(dice.nextInt(6));
        } else if (kind < 80) {
            partings(dice.nextInt(8));
        } else if (kind < 90) {
            doubts(dice.nextInt(10));
        } else {
            trays(dice.nextInt(5));
        }
    }

    private void house(int cellar) {
        both("house(" + cellar + ")", () -> x.house(cellar), () -> y.house(cellar));
    }

    private void want(int h, int m, int s) {
        both("want(" + h + "," + m + "," + s + ")", () -> x.want(h, m, s), () -> y.want(h, m, s));
    }

    private void trust(int a, int b, boolean is) {
        both("trust(" + a + "," + b + "," + is + ")", () -> x.trust(a, b, is), () -> y.trust(a, b, is));
    }

    private void change(int what) {
        int h = someHouse();
        int g = someHouse();
        switch (what) {
            case 0:
                if (y.houses.size() < size || dice.nextInt(4) == 0) {
                    house(near(0, 8));
                }
                break;
            case 1: case 2: case 3:
                want(h, near(0, 5), near(0, 8));
                break;
            case 4:
                int s = near(0, 8);
                both("cellar(" + h + "," + s + ")", () -> x.cellar(h, s), () -> y.cellar(h, s));
                break;
            case 5:
                if (dice.nextInt(3) == 0) {
                    both("bar(" + h + "," + g + ")", () -> x.bar(h, g), () -> y.bar(h, g));
                }
                break;
            case 6: case 7:
                trust(h, g, dice.nextInt(4) > 0);
                break;
            default:
                int c = near(1, 9);
                int w = near(0, 8);
                both("doubt(" + h + "," + w + "," + c + ")", () -> x.doubt(h, w, c), () -> y.doubt(h, w, c));
        }
    }

    private void text(boolean wild) {
        String text = wild ? wildText() : goodText();
        if (text.length() > 280) {
            text = text.substring(0, 280);
        }
        tell(text);
    }

    private void tell(String told) {
        both("feed " + told.replace('\n', '~'), () -> Streets.feed(x, told), () -> {
            int has = y.count(4);
            for (int at = 0; at < told.length(); at += 20) {
                has = y.feed(Streets.four(told, at), Streets.four(told, at + 4), Streets.four(told, at + 8),
                        Streets.four(told, at + 12), Streets.four(told, at + 16));
            }
            return has;
        });
        if (dice.nextInt(10) == 0) {
            return;
        }
        int n = dice.nextInt(12) == 0 ? near(0, Math.max(1, y.count(4))) : Math.min(told.length(), y.count(4));
        both("text(" + n + ")", () -> x.text(n), () -> y.text(n));
        both("fault(0)", () -> x.fault(0), () -> y.fault(0));
        both("fault(1)", () -> x.fault(1), () -> y.fault(1));
    }

    private String goodText() {
        StringBuilder t = new StringBuilder();
        if (dice.nextInt(3) == 0) {
            t.append("above;");
        }
        int from = dice.nextInt(8) == 0 ? 1 + dice.nextInt(4) : 1;
        int each = 10 + dice.nextInt(dice.nextInt(5) == 0 ? 80 : 15);
        int steps = dice.nextInt(12) == 0 ? 0 : 1 + dice.nextInt(4);
        for (int i = 0; i < steps && from <= 60; i++) {
            t.append("step ").append(from).append(' ').append(each).append(';');
            from += 1 + dice.nextInt(dice.nextInt(4) == 0 ? 20 : 4);
            each = dice.nextInt(6) == 0 ? 1 + dice.nextInt(40) : Math.max(1, each - 1 - dice.nextInt(5));
        }
        int carts = dice.nextInt(2) == 0 ? 0 : 1 + dice.nextInt(3);
        for (int i = 0; i < carts; i++) {
            t.append("cart ").append(1 + dice.nextInt(12)).append(' ').append(dice.nextInt(20)).append(';');
        }
        maybe(t, 2, "gather ", dice.nextInt(12));
        maybe(t, 2, "keep ", dice.nextInt(4));
        maybe(t, 2, "months ", 1 + dice.nextInt(6));
        maybe(t, 2, "late ", dice.nextInt(60));
        for (int i = 0; i < 2; i++) {
            if (dice.nextInt(2) == 0) {
                t.append("rise ").append(dice.nextInt(6)).append(' ').append(dice.nextInt(9)).append(';');
            }
        }
        if (dice.nextInt(3) > 0) {
            t.append("rule ").append(new String[] {"parts", "alone", "alike"}[dice.nextInt(3)]).append(';');
        }
        return t.toString();
    }

    private void maybe(StringBuilder t, int of, String word, int v) {
        if (dice.nextInt(of) == 0) {
            t.append(word).append(v).append(';');
        }
    }

    /** A good text with something changed, or pieces at random. */
    private String wildText() {
        String[] pieces = {"whole", "above", "step", "cart", "gather", "keep", "months", "rise", "late", "rule",
            "parts", "alone", "alike", ";", ";", " ", "\n", "0", "1", "5", "6", "60", "61", "99", "100", "999",
            "1000", "x", "?", "\t", "\u00e4", "007"};
        StringBuilder t = new StringBuilder(goodText());
        int times = 1 + dice.nextInt(3);
        for (int i = 0; i < times; i++) {
            String piece = pieces[dice.nextInt(pieces.length)];
            int at = dice.nextInt(t.length() + 1);
            switch (dice.nextInt(4)) {
                case 0: t.insert(at, piece); break;
                case 1: t.insert(at, " " + piece + " "); break;
                case 2:
                    if (at < t.length()) {
                        t.deleteCharAt(at);
                    }
                    break;
                default:
                    String line = new String[] {"step 9 9;", "cart 3 3;", "step 1 5;", "whole;", "late 5;", "step 6",
                        "step 20 3;step 21 3;step 22 3;", "cart 1 1;cart 2 2;cart 3 3;"}[dice.nextInt(8)];
                    int stop = t.indexOf(";", at);
                    t.insert(stop < 0 ? t.length() : stop + 1, line);
            }
        }
        return t.toString();
    }

    private void small(int what) {
        int h = someHouse();
        int g = someHouse();
        int set = someSet();
        int q = dice.nextInt(3) == 0 ? near(0, 200) : near(0, 20);
        int m = near(0, 5);
        int i = near(0, 9);
        switch (what) {
            case 0: both("holder(" + set + ")", () -> x.holder(set), () -> y.holder(set)); break;
            case 1: both("chain(" + h + "," + g + ")", () -> x.chain(h, g), () -> y.chain(h, g)); break;
            case 2: both("price(" + q + ")", () -> x.price(q), () -> y.price(q)); break;
            case 3: case 4: both("buys(" + q + "," + m + ")", () -> x.buys(q, m), () -> y.buys(q, m)); break;
            case 5: both("count(" + i + ")", () -> x.count(i), () -> y.count(i)); break;
            case 6:
                int v = near(0, 40);
                both("pay(" + h + "," + v + ")", () -> x.pay(h, v), () -> y.pay(h, v));
                break;
            default:
                int d = dice.nextInt(3) == 0 ? near(1, 1000) : near(1, 3);
                both("by(" + d + ")", () -> x.by(d), () -> y.by(d));
        }
    }

    private void sets(int what) {
        int set = someSet();
        int h = someHouse();
        int m = near(-1, y.terms.months - 1);
        switch (what) {
            case 0: both("cost(" + set + ")", () -> x.cost(set), () -> y.cost(set)); break;
            case 1: both("bought(" + set + "," + m + ")", () -> x.bought(set, m), () -> y.bought(set, m)); break;
            case 2: both("least(" + set + ")", () -> x.least(set), () -> y.least(set)); break;
            case 3:
                int g = near(-1, 6);
                both("group(" + set + "," + g + ")", () -> x.group(set, g), () -> y.group(set, g));
                break;
            case 4:
                int s = h >= 0 && h < 7 && dice.nextInt(10) > 0 ? set & ~(1 << h) : set;
                both("come(" + s + "," + h + ")", () -> x.come(s, h), () -> y.come(s, h));
                break;
            default:
                int other = dice.nextInt(10) > 0 ? someSet() & ~set : someSet();
                int toll = dice.nextInt(9) == 0 ? near(0, 100000) : near(0, 30);
                both("join(" + set + "," + other + "," + toll + ")", () -> x.join(set, other, toll),
                        () -> y.join(set, other, toll));
        }
    }

    private void partings(int what) {
        int set = fewSet(dice.nextInt(12) == 0 ? 5 : 4);
        int h = someHouse();
        boolean most = dice.nextBoolean();
        switch (what) {
            case 0: judge(set); break;
            case 1: both("can(" + set + ")", () -> x.can(set), () -> y.can(set)); fraction(); break;
            case 2:
                both("share(" + set + "," + h + "," + most + ")", act(() -> x.share(set, h, most)),
                        act(() -> y.share(set, h, most)));
                fraction();
                break;
            case 3: case 4:
                both("row(" + set + "," + h + ")", act(() -> x.row(set, h)), act(() -> y.row(set, h)));
                fraction();
                break;
            case 5:
                int any = someSet();
                both("ruled(" + any + "," + h + ")", act(() -> x.ruled(any, h)), act(() -> y.ruled(any, h)));
                fraction();
                break;
            case 6:
                int some = someSet();
                both("keeps(" + some + ")", () -> x.keeps(some), () -> y.keeps(some));
                break;
            default: proof(set);
        }
    }

    /** Often pays that are TOTAL together, near to what each pays by RULE. */
    private void judge(int set) {
        if (dice.nextInt(4) > 0 && set > 0 && set < 1 << y.houses.size() && y.least(set) >= 0) {
            int d = 1 + dice.nextInt(4);
            both("by(" + d + ")", () -> x.by(d), () -> y.by(d));
            int rest = y.least(set) * d;
            int left = Integer.bitCount(set);
            for (int i = 0; i < 7; i++) {
                if ((set >> i & 1) == 1) {
                    int h = i;
                    int v = left == 1 ? rest : Math.max(0, Math.min(rest, rest / left + dice.nextInt(7) - 3));
                    both("pay(" + h + "," + v + ")", () -> x.pay(h, v), () -> y.pay(h, v));
                    rest -= v;
                    left--;
                }
            }
        }
        both("judge(" + set + ")", () -> x.judge(set), () -> y.judge(set));
    }

    private void proof(int set) {
        int tray = near(0, 3);
        int d = dice.nextInt(4) == 0 ? near(1, 1000) : near(1, 3);
        if (dice.nextInt(4) > 0 && tray >= 0 && tray < 4) {
            int many = dice.nextInt(8) == 0 ? near(0, 9) : 2 * (1 + dice.nextInt(5));
            int sort = 1 + dice.nextInt(3);
            both("tray(" + tray + "," + sort + "," + many + ")", act(() -> x.tray(tray, sort, many)),
                    act(() -> y.tray(tray, sort, many)));
            for (int i = 0; i < many && i < 40; i++) {
                int at = i;
                long v = i % 2 == 1 ? dice.nextInt(5) > 0 ? 1 : near(0, 3) : dice.nextInt(20) == 0 ? near(0, 127)
                        : Math.max(1, dice.nextInt(128) & set);
                both("write(" + tray + "," + at + "," + v + ")", () -> x.write(tray, at, v),
                        () -> y.write(tray, at, v));
            }
        }
        both("proof(" + tray + "," + set + "," + d + ")", () -> x.proof(tray, set, d), () -> y.proof(tray, set, d));
    }

    private void doubts(int what) {
        int set = someSet();
        if (what < 5) {
            int q = near(0, 8 * Math.max(1, Integer.bitCount(set)));
            both("risk(" + set + "," + q + ")", () -> x.risk(set, q), () -> y.risk(set, q));
            fraction();
        } else if (what < 9) {
            both("before(" + set + ")", () -> x.before(set), () -> y.before(set));
            fraction();
        } else if (dice.nextInt(6) == 0) {
            int few = fewSet(y.terms.months > 3 ? 2 : 3);
            int p = dice.nextInt(3) == 0 ? near(2, 20) : near(2, 6);
            int k = near(0, 6);
            for (int i = 0; i < 4; i++) {
                int v = dice.nextInt(20) == 0 ? near(0, 3) : i;
                both("seller(" + few + "," + p + "," + k + "," + v + ")", () -> x.seller(few, p, k, v),
                        () -> y.seller(few, p, k, v));
            }
        }
    }

    private void trays(int what) {
        int tray = near(0, 3);
        int h = someHouse();
        int i = near(0, 2);
        switch (what) {
            case 0:
                int sort = near(0, 3);
                int many = dice.nextInt(4) == 0 ? near(0, 40) : near(0, 6);
                both("tray(" + tray + "," + sort + "," + many + ")", act(() -> x.tray(tray, sort, many)),
                        act(() -> y.tray(tray, sort, many)));
                break;
            case 1:
                int place = dice.nextInt(4) == 0 ? near(0, 39) : near(0, 6);
                long v = dice.nextInt(4) == 0 ? dice.nextLong() : near(0, 8);
                both("write(" + tray + "," + place + "," + v + ")", () -> x.write(tray, place, v),
                        () -> y.write(tray, place, v));
                break;
            case 2: both("take(" + tray + "," + h + ")", () -> x.take(tray, h), () -> y.take(tray, h)); break;
            case 3: both("image(" + i + ")", act(() -> x.image(i)), act(() -> y.image(i))); break;
            default: both("restore(" + i + ")", act(() -> x.restore(i)), act(() -> y.restore(i)));
        }
    }
}
