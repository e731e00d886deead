import java.util.function.Supplier;

/**
 * What promises 35 to 40 and the terms of TRAYS and IMAGES say without naming a boundary, where it could be read
 * otherwise, and "A call that throws changes nothing" for each call that can throw.
 */
public final class SentencesOfTraysTest {
    private SentencesOfTraysTest() {
    }

    public static void main(String[] args) {
        trayIsARowOfItsOwn();
        trayIsNothingElse();
        writeComesToOnePlace();
        writeIsCutOnce();
        numbersStay();
        takeIsOfOne();
        takeIsACopy();
        takeIsAsWant();
        takeLeavesTheTray();
        imageIsAsItWas();
        imageIsMadeAgain();
        imagesAreThree();
        restoreLeavesImages();
        restoreIsToGoOnFrom();
        restoreIsAll();
        countIsOfNow();
        throwsChangeNothing();
        throwsThatAreToldFirst();
        Check.end();
    }

    private static void due(String what, Object want, Check.Call call) {
        Check.due(what, want, call);
    }

    private static CoalStreet told(String text, int... wants) {
        CoalStreet x = Streets.trusting(wants);
        Streets.tell(x, text);
        return x;
    }

    /** The numbers of a tray, by taking them as WANTS of a household that is there for that. */
    private static String numbers(CoalStreet x, int tray, int house) {
        for (int m = 0; m < 6; m++) {
            x.want(house, m, 0);
        }
        int many = x.take(tray, house);
        StringBuilder all = new StringBuilder();
        for (int m = 0; m < many; m++) {
            all.append(x.want(house, m, 0));
        }
        return all.toString();
    }

    // ---- promise 35: "A TRAY is a row of so many 0s."

    private static void trayIsARowOfItsOwn() {
        CoalStreet x = told("", 0);
        for (int t = 0; t < 4; t++) {
            Twins.lay(x, t, t, t + 1, t + 2, t + 3);
        }
        for (int t = 0; t < 4; t++) {
            Check.same("tray " + t, "" + (t + 1) + (t + 2) + (t + 3), numbers(x, t, 0));
        }
        x.tray(2, 0, 4);
        Check.same("tray 2 anew", "0000", numbers(x, 2, 0));
        Check.same("tray 1 as it was", "234", numbers(x, 1, 0));
        Check.same("tray 3 as it was", "456", numbers(x, 3, 0));
        x.tray(3, 3, 2);
        Check.same("tray 3 anew, of its sort", "00", numbers(x, 3, 0));
        x.tray(0, 1, 0);
        Check.same("tray 0 without numbers", "", numbers(x, 0, 0));
        x.tray(0, 1, 5);
        Check.same("tray 0 with five", "00000", numbers(x, 0, 0));
    }

    private static void trayIsNothingElse() {
        CoalStreet x = Twins.rich();
        String before = Streets.print(x);
        for (int t = 0; t < 4; t++) {
            x.tray(t, 3 - t, 10 * t + 3);
            x.write(t, 2, 1L << 40);
            x.write(t, 1, -5);
        }
        Check.same("all but the trays is as it was", before, Streets.print(x));
    }

    // ---- promise 36: "A number comes to a place of a TRAY, cut to its sort: as it is there."

    private static void writeComesToOnePlace() {
        for (int place = 0; place < 6; place++) {
            CoalStreet x = told("", 0);
            Twins.lay(x, 0, 1, 1, 2, 3, 4, 5, 6);
            Twins.lay(x, 1, 1, 1, 2, 3, 4, 5, 6);
            int at = place;
            due("write", 8, () -> x.write(0, at, 8));
            Check.same("the other places", "123456".replace((char) ('1' + place), '8'), numbers(x, 0, 0));
            Check.same("the other tray", "123456", numbers(x, 1, 0));
            due("write the next one there", 7, () -> x.write(0, at, 7));
            Check.same("the other places", "123456".replace((char) ('1' + place), '7'), numbers(x, 0, 0));
        }
    }

    /** What is cut is gone: the place holds what write() answers. */
    private static void writeIsCutOnce() {
        for (int sort = 0; sort < 3; sort++) {
            CoalStreet x = told("", 0);
            x.tray(0, sort, 2);
            int bits = 8 << sort;
            due("3 and more than it holds", 3, () -> x.write(0, 0, 3 | 5L << bits));
            due("4 below 0", 4, () -> x.write(0, 1, 4 - (1L << bits)));
            due("they are WANTS", 2, () -> x.take(0, 0));
            due("3", 3, () -> x.want(0, 0, 0));
            due("4", 4, () -> x.want(0, 1, 0));
            int other = sort;
            due("the least number, and one less", (1L << bits - 1) - 1, () -> x.write(0, 0, -(1L << bits - 1) - 1));
            due("sort " + other + " is too much", Twins.IAE, () -> x.take(0, 0));
        }
        CoalStreet y = told("", 0);
        y.tray(0, 3, 1);
        due("64 bits aren't cut", 3 | 5L << 32, () -> y.write(0, 0, 3 | 5L << 32));
        due("nor are they WANTS", Twins.IAE, () -> y.take(0, 0));
    }

    /** Numbers stay as long as no tray() and no write() comes there. */
    private static void numbersStay() {
        CoalStreet x = told("step 1 1;", 1, 1, 1);
        Twins.lay(x, 1, 0, 3, 1, 4, 1, 5);
        x.image(0);
        Streets.tell(x, "step 1 2;late 3;");
        x.house(2);
        x.proof(1, 3, 4);
        x.take(1, 3);
        x.seller(7, 3, 1, 0);
        x.restore(0);
        due("a write that throws", Twins.OUT, () -> x.write(1, 5, 8));
        due("a tray that throws", Twins.IAE, () -> {
            x.tray(1, 4, 0);
            return 0;
        });
        x.tray(0, 3, 5);
        x.write(0, 2, 7);
        Check.same("as they were", "31415", numbers(x, 1, 0));
    }

    // ---- promise 37: "The numbers of a TRAY are WANTS of a HOUSEHOLD, from MONTH 0 on: how many."

    private static void takeIsOfOne() {
        for (int one = 0; one < 7; one++) {
            int house = one;
            CoalStreet x = told("", 1, 1, 1, 1, 1, 1, 1);
            for (int h = 0; h < 7; h++) {
                x.want(h, 3, 2);
            }
            Twins.lay(x, 0, 2, 5, 6, 7);
            due("how many", 3, () -> x.take(0, house));
            for (int h = 0; h < 7; h++) {
                int other = h;
                int[] due = h == one ? new int[] {5, 6, 7, 2, 0, 0} : new int[] {1, 0, 0, 2, 0, 0};
                for (int m = 0; m < 6; m++) {
                    int month = m;
                    due("want of " + h + " in " + m, due[m], () -> x.want(other, month, 0));
                }
            }
        }
    }

    /** What comes to the tray later is no WANT. */
    private static void takeIsACopy() {
        CoalStreet x = told("step 1 10;", 0, 0);
        Twins.lay(x, 0, 0, 4);
        x.take(0, 0);
        x.write(0, 0, 7);
        due("the WANT of then", 40, () -> x.cost(1));
        due("taken by another one", 1, () -> x.take(0, 1));
        due("its WANT", 70, () -> x.cost(2));
        x.tray(0, 0, 3);
        due("the WANT of then", 40, () -> x.cost(1));
        x.want(1, 0, 2);
        due("taken anew", 3, () -> x.take(0, 0));
        due("nothing", 0, () -> x.cost(1));
        due("the other one's", 20, () -> x.cost(2));
    }

    /** As if each of them was told by want(), and nothing else. */
    private static void takeIsAsWant() {
        for (int many = 0; many <= 6; many++) {
            for (int house = 0; house < 5; house++) {
                CoalStreet x = Twins.rich();
                CoalStreet y = Twins.rich();
                x.tray(3, many % 4, many);
                y.tray(3, many % 4, many);
                for (int i = 0; i < many; i++) {
                    x.write(3, i, (3 * i + house) % 9);
                    y.write(3, i, (3 * i + house) % 9);
                    y.want(house, i, (3 * i + house) % 9);
                }
                int all = many;
                int taker = house;
                due("how many", all, () -> x.take(3, taker));
                Twins.like("taken as told", Twins.all(y), Twins.all(x));
            }
        }
    }

    private static void takeLeavesTheTray() {
        CoalStreet x = told("", 0, 0, 0);
        Twins.lay(x, 2, 1, 8, 0, 1);
        for (int round = 0; round < 4; round++) {
            for (int h = 0; h < 3; h++) {
                Check.same("taken again", "801", numbers(x, 2, h));
            }
        }
        due("its places", 3, () -> x.take(2, 0));
        due("a fourth place", Twins.OUT, () -> x.write(2, 3, 1));
    }

    // ---- promises 38 and 39: "An IMAGE is made." "All is as in an IMAGE." "IMAGES 0 to 2: all but the tape, the FAULT,
    // the FRACTION and TRAYS, as it was (none at first)."

    private static void imageIsAsItWas() {
        CoalStreet x = Twins.rich();
        String before = Streets.print(x);
        x.image(1);
        Check.same("to make an image changes nothing", before, Streets.print(x));
        x.restore(1);
        Check.same("nor to go on from it at once", before, Streets.print(x));
    }

    /** A later image of that number is there instead of the earlier one. */
    private static void imageIsMadeAgain() {
        for (int i = 0; i < 3; i++) {
            int image = i;
            CoalStreet x = told("step 1 10;", 1, 2);
            x.image(image);
            x.want(0, 0, 5);
            x.trust(0, 1, false);
            Streets.tell(x, "step 1 3;cart 9 1;");
            x.doubt(0, 3, 3);
            x.image(image);
            x.want(0, 0, 7);
            x.bar(0, 1);
            x.doubt(1, 3, 3);
            Streets.tell(x, "late 4;");
            x.restore(image);
            due("cost", 16, () -> x.cost(1));
            due("who trusts", false, () -> x.trust(0, 1, false));
            due("nobody is barred", true, () -> x.bar(0, 1));
            due("a doubt", 1, () -> x.count(5));
            due("late", 0, () -> x.count(7));
            due("a cart", 1, () -> x.count(2));
        }
    }

    private static void imagesAreThree() {
        CoalStreet x = new CoalStreet();
        for (int i = 0; i < 3; i++) {
            x.house(i);
            x.want(0, 0, 3 + i);
            x.by(i + 5);
            Streets.tell(x, "step 1 " + (7 + i) + ";late " + (90 + i) + ";");
            x.image(i);
        }
        x.house(8);
        Streets.tell(x, "");
        int[] order = {1, 0, 2, 2, 0, 1, 0};
        for (int i : order) {
            x.restore(i);
            due("households of " + i, i + 1, () -> x.count(0));
            due("cost of " + i, (3 + i) * (7 + i), () -> x.cost(1));
            due("late of " + i, 90 + i, () -> x.count(7));
            due("D of " + i, i + 5, () -> x.by(1));
            due("cellar of the last one", i, () -> x.cellar(i, 8));
        }
    }

    /** An image doesn't hold images: those that are made later are there still, and the one itself stays. */
    private static void restoreLeavesImages() {
        CoalStreet x = told("step 1 1;", 1);
        x.image(0);
        x.want(0, 0, 2);
        x.image(1);
        x.want(0, 0, 3);
        x.image(2);
        int[] order = {0, 1, 2, 0, 2, 1, 1, 0, 0};
        for (int i : order) {
            x.restore(i);
            due("cost of image " + i, i + 1, () -> x.cost(1));
        }
        x.want(0, 0, 8);
        x.image(0);
        x.restore(2);
        due("cost of image 2", 3, () -> x.cost(1));
        x.restore(0);
        due("cost of the new image 0", 8, () -> x.cost(1));
    }

    /** What is told behind restore() comes to what was then. */
    private static void restoreIsToGoOnFrom() {
        Supplier<CoalStreet> maker = () -> {
            CoalStreet x = new CoalStreet();
            x.house(2);
            x.house(0);
            x.doubt(0, 3, 1);
            x.trust(1, 0, true);
            return x;
        };
        CoalStreet x = maker.get();
        x.image(2);
        x.house(4);
        x.doubt(0, 8, 9);
        x.doubt(1, 8, 9);
        x.want(2, 0, 8);
        x.bar(0, 1);
        x.restore(2);
        CoalStreet y = maker.get();
        y.image(2);
        for (CoalStreet z : new CoalStreet[] {x, y}) {
            due("the next household", 2, () -> z.house(1));
            due("the next doubt", 2, () -> z.doubt(0, 5, 2));
            due("the first doubt", 1, () -> z.doubt(1, 6, 3));
            z.want(2, 0, 4);
            z.want(1, 0, 3);
            Streets.tell(z, "step 1 9;step 5 8;late 20;keep 1;");
        }
        Twins.like("on from an image", Twins.all(y), Twins.all(x));
    }

    /** Each thing that calls tell is as in the image: also what was asked between. */
    private static void restoreIsAll() {
        CoalStreet x = Twins.rich();
        x.text(0);
        Streets.tell(x, "above;step 4 9;step 1 12;cart 5 6;cart 2 4;gather 2;keep 1;months 3;rise 1 2;late 7;");
        x.image(0);
        CoalStreet other = Twins.rich();
        other.text(0);
        Streets.tell(other, "above;step 4 9;step 1 12;cart 5 6;cart 2 4;gather 2;keep 1;months 3;rise 1 2;late 7;");
        other.image(0);
        x.restore(2);
        due("as in another image", 4, () -> x.count(0));
        for (int set = 1; set < 16; set++) {
            x.least(set);
            x.seller(set, 4, 1, 0);
            x.before(set);
        }
        x.house(8);
        x.restore(0);
        x.ruled(7, 1);
        other.ruled(7, 1);
        Twins.like("all is as in the image", Twins.all(other), Twins.all(x));
    }

    // ---- promise 40: "0 HOUSEHOLDS, 1 steps, 2 CARTS, 3 MONTHS that count, 4 bytes on the tape, 5 DOUBTS of all, 6 RULE
    // .., 7 late, 8 gather, 9 keep"

    private static void counts(String when, CoalStreet x, int... due) {
        for (int i = 0; i < 10; i++) {
            int what = i;
            due("count(" + i + ") " + when, due[i], () -> x.count(what));
        }
    }

    private static void countIsOfNow() {
        CoalStreet x = new CoalStreet();
        counts("at first", x, 0, 0, 0, 1, 0, 0, 0, 0, 0, 0);
        x.house(1);
        x.house(2);
        counts("with households", x, 2, 0, 0, 1, 0, 0, 0, 0, 0, 0);
        x.doubt(0, 1, 1);
        x.doubt(1, 1, 1);
        x.doubt(1, 1, 1);
        counts("with doubts", x, 2, 0, 0, 1, 0, 3, 0, 0, 0, 0);
        Streets.feed(x, "step 1 1;step 2 2;step 3 3;cart 1 1;cart 1 1;months 4;rule alone;late 5;gather 6;keep 7;");
        counts("with a tape", x, 2, 0, 0, 1, 100, 3, 0, 0, 0, 0);
        x.image(0);
        x.text(100);
        counts("with a tariff", x, 2, 3, 2, 4, 0, 3, 1, 5, 6, 7);
        x.feed(0, 0, 0, 0, 0);
        due("a seller", 0, () -> x.seller(3, 5, 0, 2));
        x.tray(0, 0, 9);
        counts("behind other calls", x, 2, 3, 2, 4, 20, 3, 1, 5, 6, 7);
        x.text(20);
        counts("behind a FAULT", x, 2, 3, 2, 4, 0, 3, 1, 5, 6, 7);
        x.house(3);
        x.doubt(2, 1, 1);
        x.feed(0, 0, 0, 0, 0);
        x.restore(0);
        counts("as in an image, but the tape", x, 2, 0, 0, 1, 20, 3, 0, 0, 0, 0);
        x.text(20);
        Streets.tell(x, "rule alike;");
        counts("with a rule", x, 2, 0, 0, 1, 0, 3, 2, 0, 0, 0);
    }

    // ---- "A call that throws changes nothing.", "Of several throws of a call that one comes that is told first."

    private static Object act(Runnable run) {
        run.run();
        return Twins.NOTHING;
    }

    private static void throwsChangeNothing() {
        String n = Twins.NSE;
        String a = Twins.IAE;
        Twins.stays("house", a, x -> x.house(9));
        Twins.stays("want", n, x -> x.want(5, 0, 1));
        Twins.stays("want", n, x -> x.want(0, 6, 1));
        Twins.stays("want", a, x -> x.want(0, 0, 9));
        Twins.stays("cellar", n, x -> x.cellar(5, 1));
        Twins.stays("cellar", a, x -> x.cellar(0, 9));
        Twins.stays("bar", n, x -> x.bar(0, 5));
        Twins.stays("bar", a, x -> x.bar(2, 2));
        Twins.stays("trust", n, x -> x.trust(5, 0, true));
        Twins.stays("trust", a, x -> x.trust(3, 3, true));
        Twins.stays("holder", a, x -> x.holder(32));
        Twins.stays("chain", n, x -> x.chain(0, 5));
        Twins.stays("text", a, x -> x.text(41));
        Twins.stays("price", a, x -> x.price(201));
        Twins.stays("buys", n, x -> x.buys(1, 6));
        Twins.stays("buys", a, x -> x.buys(201, 0));
        Twins.stays("cost", a, x -> x.cost(0));
        Twins.stays("bought", n, x -> x.bought(1, 3));
        Twins.stays("bought", a, x -> x.bought(0, 0));
        Twins.stays("least", a, x -> x.least(32));
        Twins.stays("group", a, x -> x.group(0, 0));
        Twins.stays("come", n, x -> x.come(1, 5));
        Twins.stays("come", a, x -> x.come(1, 0));
        Twins.stays("join", a, x -> x.join(1, 3, 0));
        Twins.stays("pay", n, x -> x.pay(5, 0));
        Twins.stays("pay", a, x -> x.pay(0, -1));
        Twins.stays("by", a, x -> x.by(0));
        Twins.stays("judge", a, x -> x.judge(0));
        Twins.stays("can", a, x -> x.can(1));
        Twins.stays("share", a, x -> act(() -> x.share(3, 2, true)));
        Twins.stays("row", a, x -> act(() -> x.row(3, 2)));
        Twins.stays("proof", n, x -> x.proof(4, 3, 1));
        Twins.stays("proof", a, x -> x.proof(0, 3, 0));
        Twins.stays("ruled", a, x -> act(() -> x.ruled(3, 2)));
        Twins.stays("keeps", a, x -> x.keeps(0));
        Twins.stays("doubt", n, x -> x.doubt(5, 1, 1));
        Twins.stays("doubt", a, x -> x.doubt(0, 1, 0));
        Twins.stays("risk", a, x -> x.risk(1, 9));
        Twins.stays("before", a, x -> x.before(0));
        Twins.stays("seller", a, x -> x.seller(1, 1, 0, 0));
        Twins.stays("tray", n, x -> act(() -> x.tray(4, 0, 1)));
        Twins.stays("tray", a, x -> act(() -> x.tray(0, 0, 41)));
        Twins.stays("write", n, x -> x.write(4, 0, 1));
        Twins.stays("write", Twins.ISE, x -> x.write(3, 0, 1));
        Twins.stays("write", Twins.OUT, x -> x.write(0, 3, 1));
        Twins.stays("take", n, x -> x.take(0, 5));
        Twins.stays("take", Twins.ISE, x -> x.take(3, 0));
        Twins.stays("take", a, () -> {
            CoalStreet x = Twins.rich();
            Twins.lay(x, 3, 0, 1, 2, 3, 9);
            return x;
        }, x -> x.take(3, 0));
        Twins.stays("image", n, x -> act(() -> x.image(3)));
        Twins.stays("restore", n, x -> act(() -> x.restore(3)));
        Twins.stays("restore", Twins.ISE, x -> act(() -> x.restore(1)));
        Supplier<CoalStreet> bare = () -> {
            CoalStreet x = Twins.rich();
            x.text(0);
            return x;
        };
        Twins.stays("judge", Twins.ISE, bare, x -> x.judge(3));
        Twins.stays("can", Twins.ISE, bare, x -> x.can(3));
        Twins.stays("share", Twins.ISE, bare, x -> act(() -> x.share(3, 0, true)));
        Twins.stays("row", Twins.ISE, bare, x -> act(() -> x.row(3, 0)));
        Twins.stays("proof", Twins.ISE, bare, x -> x.proof(0, 3, 1));
        Twins.stays("ruled", Twins.ISE, bare, x -> act(() -> x.ruled(3, 0)));
        Twins.stays("keeps", Twins.ISE, bare, x -> x.keeps(3));
    }

    /** All that can be wrong of a call is wrong at once, and then all but the first. */
    private static void throwsThatAreToldFirst() {
        String n = Twins.NSE;
        String a = Twins.IAE;
        String s = Twins.ISE;
        CoalStreet x = Twins.rich();
        x.text(0);
        due("want", n, () -> x.want(5, 6, 9));
        due("want", n, () -> x.want(0, 6, 9));
        due("cellar", n, () -> x.cellar(5, 9));
        due("bar", n, () -> x.bar(5, 5));
        due("trust", n, () -> x.trust(5, 5, true));
        due("buys", n, () -> x.buys(201, 6));
        due("bought", n, () -> x.bought(0, 9));
        due("come", n, () -> x.come(0, 5));
        due("pay", n, () -> x.pay(5, -1));
        due("judge", a, () -> x.judge(32));
        due("can", a, () -> x.can(1));
        due("share", a, () -> act(() -> x.share(1, 1, true)));
        due("share", a, () -> act(() -> x.share(3, 2, true)));
        due("row", a, () -> act(() -> x.row(1, 1)));
        due("row", a, () -> act(() -> x.row(3, 2)));
        due("proof", n, () -> x.proof(4, 1, 0));
        due("proof", a, () -> x.proof(0, 1, 0));
        due("proof", a, () -> x.proof(0, 3, 0));
        due("proof", s, () -> x.proof(0, 3, 1));
        due("ruled", a, () -> act(() -> x.ruled(3, 2)));
        due("ruled", s, () -> act(() -> x.ruled(3, 0)));
        due("keeps", a, () -> x.keeps(32));
        due("doubt", n, () -> x.doubt(5, 9, 0));
        due("tray", n, () -> act(() -> x.tray(4, 4, 41)));
        due("write", n, () -> x.write(4, 99, 0));
        due("write", s, () -> x.write(3, 99, 0));
        due("take", n, () -> x.take(4, 5));
        due("take", n, () -> x.take(3, 5));
        due("take", s, () -> x.take(3, 0));
        due("restore", n, () -> act(() -> x.restore(3)));
    }
}
