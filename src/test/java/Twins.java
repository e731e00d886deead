import java.util.function.Consumer;
import java.util.function.Supplier;

/**
 * Two like objects: a call that shall change nothing is made on one of them, and then all that calls can tell is
 * asked of both, even where asking changes it.
 */
final class Twins {
    static final String NSE = "throws NoSuchElementException";
    static final String IAE = "throws IllegalArgumentException";
    static final String ISE = "throws IllegalStateException";
    static final String OUT = "throws IndexOutOfBoundsException";
    static final String NOTHING = "nothing";
    static final int BIG = Integer.MAX_VALUE;
    static final int SMALL = Integer.MIN_VALUE;

    /** A use of an object: what it answers. */
    interface Use {
        Object of(CoalStreet x);
    }

    private Twins() {
    }

    /** A use that answers nothing. */
    static Use act(Consumer<CoalStreet> run) {
        return x -> {
            run.accept(x);
            return null;
        };
    }

    /** The use answers so (or throws so), and nothing is another than without it. */
    static void stays(String what, Object want, Supplier<CoalStreet> maker, Use use) {
        CoalStreet x = maker.get();
        Check.due(what, want, () -> use.of(x));
        like(what + ": all is as without it", all(maker.get()), all(x));
    }

    /** Two long texts are one; else the first place where they differ is shown. */
    static void like(String what, String due, String got) {
        int at = 0;
        while (at < due.length() && at < got.length() && due.charAt(at) == got.charAt(at)) {
            at++;
        }
        Check.same(what, round(due, at), round(got, at));
    }

    /** What stands round a place: enough to tell two apart that differ there. */
    private static String round(String all, int at) {
        return all.substring(Math.max(0, Math.min(at, all.length()) - 40), Math.min(all.length(), at + 40));
    }

    /** The same on a street that holds something of everything. */
    static void stays(String what, Object want, Use use) {
        stays(what, want, Twins::rich, use);
    }

    /** A use of an object with a number that is the set, or the household. */
    interface UseOf {
        Object of(CoalStreet x, int number);
    }

    /** Each number that is no set of n households is refused, and nothing changes. */
    static void wrongSets(String call, int n, Supplier<CoalStreet> maker, UseOf use) {
        int end = 1 << n;
        for (int set : new int[] {0, -1, end, end + 1, end | 256, 128, 129, 257, 1 << 30, -end, SMALL, SMALL + 1, BIG}) {
            stays(call + " of the set " + set + " of " + n + " households", IAE, maker, x -> use.of(x, set));
        }
    }

    static void wrongSets(String call, UseOf use) {
        wrongSets(call, 5, Twins::rich, use);
    }

    /** The same, and the first set and the last one aren't refused. */
    static void noSets(String call, int n, Supplier<CoalStreet> maker, UseOf use) {
        wrongSets(call, n, maker, use);
        taken(call + " of the first set of " + n, maker, x -> use.of(x, 1));
        taken(call + " of the last set of " + n, maker, x -> use.of(x, (1 << n) - 1));
    }

    static void noSets(String call, UseOf use) {
        noSets(call, 5, Twins::rich, use);
    }

    /** The use doesn't throw. */
    static void taken(String what, Supplier<CoalStreet> maker, Use use) {
        CoalStreet x = maker.get();
        Check.same(what + " throws", false, Check.answer(() -> use.of(x)).startsWith("throws"));
    }

    /** Each number that is no household of five is refused so, and nothing changes. */
    static void noHouses(String call, String want, UseOf use) {
        for (int house : new int[] {-1, 5, 6, 7, 31, 32, 33, 64, -32, SMALL, BIG}) {
            stays(call + " of household " + house, want, x -> use.of(x, house));
        }
    }

    /**
     * Five households with something of all that there is: two images (of another street each), trays of three kinds,
     * a FAULT, a FRACTION and a tape with a TEXT.
     */
    static CoalStreet rich() {
        CoalStreet x = Streets.trusting(3, 1, 0, 2);
        Streets.tell(x, "step 1 20;late 3;keep 2;months 2;rule alike;");
        x.doubt(1, 2, 2);
        x.image(2);
        x.house(1);
        x.trust(4, 0, true);
        x.cellar(0, 2);
        x.cellar(2, 8);
        x.want(0, 1, 4);
        x.want(4, 0, 5);
        x.want(4, 5, 7);
        Streets.tell(x, "above;step 4 9;step 1 12;cart 5 6;cart 2 4;gather 2;keep 1;months 3;rise 1 2;rise 4 1;"
                + "late 7;rule alone;");
        x.pay(0, 17);
        x.pay(4, 100000);
        x.by(3);
        x.doubt(0, 1, 9);
        x.doubt(0, 8, 2);
        x.doubt(4, 3, 1);
        x.bar(1, 3);
        x.image(0);
        x.cellar(3, 1);
        x.trust(2, 0, false);
        lay(x, 0, 0, 1, 2, 3);
        lay(x, 1, 3, 8, 0, 5, 6, 7, 4);
        lay(x, 2, 1);
        x.ruled(7, 1);
        Streets.tell(x, "gather 7; late 9999;");
        Streets.feed(x, "step 1 77;gather 3;late 55;months 5;");
        return x;
    }

    /** A tray with these numbers. */
    static void lay(CoalStreet x, int tray, int sort, long... numbers) {
        x.tray(tray, sort, numbers.length);
        for (int i = 0; i < numbers.length; i++) {
            x.write(tray, i, numbers[i]);
        }
    }

    /** All that an object tells. Behind that it is no longer what it was. */
    static String all(CoalStreet x) {
        StringBuilder all = new StringBuilder();
        street(x, all);
        trays(x, all);
        all.append("\ntape ").append(x.text(x.count(4)));
        street(x, all);
        for (int i = 0; i < 3; i++) {
            int image = i;
            all.append("\nimage ").append(Check.answer(() -> {
                x.restore(image);
                street(x, all);
                return image;
            }));
        }
        return all.toString();
    }

    private static void street(CoalStreet x, StringBuilder all) {
        all.append('\n').append(Streets.print(x)).append("\nmonths");
        int n = x.count(0);
        for (int set = 1; set < 1 << n; set += 6) {
            for (int m = 0; m < 6; m++) {
                int month = m;
                int some = set;
                all.append(' ').append(Check.answer(() -> x.bought(some, month)));
            }
        }
        all.append("\nbuys");
        for (int m = 0; m < 6; m++) {
            all.append(' ').append(x.buys(1, m));
        }
        all.append("\nseller");
        for (int what = 0; what < 4 && n > 1; what++) {
            all.append(' ').append(x.seller(3, 3, 1, what));
        }
        all.append("\ndoubts");
        for (int i = 0; i < n; i++) {
            for (int q = 0; q <= 8; q++) {
                all.append(' ').append(x.risk(1 << i, q)).append(x.upper()).append('/').append(x.lower());
            }
            all.append(' ').append(x.doubt(i, 0, 1));
        }
        all.append("\nbars ");
        for (int i = 0; i < n; i++) {
            for (int j = i + 1; j < n; j++) {
                all.append(x.bar(i, j) ? '-' : '+');
            }
        }
    }

    private static void trays(CoalStreet x, StringBuilder all) {
        for (int t = 0; t < 4; t++) {
            int tray = t;
            all.append("\ntray ").append(Check.answer(() -> x.take(tray, 0)));
            for (int m = 0; m < 6 && x.count(0) > 0; m++) {
                all.append(' ').append(x.want(0, m, 0));
            }
            String last = "";
            for (int p = -1; p < 41; p++) {
                int place = p;
                String now = Check.answer(() -> x.write(tray, place, 0x7654_3210_fedc_ba98L));
                all.append(now.equals(last) ? "=" : " " + now);
                last = now;
            }
        }
    }
}
