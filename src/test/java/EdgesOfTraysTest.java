import java.util.function.Supplier;

/** The edges that promises 35 to 40 name, and the terms of TRAYS and IMAGES: each by itself. */
public final class EdgesOfTraysTest {
    private static final String NSE = Twins.NSE;
    private static final String IAE = Twins.IAE;
    private static final String ISE = Twins.ISE;
    private static final String OUT = Twins.OUT;
    private static final int BIG = Twins.BIG;
    private static final int SMALL = Twins.SMALL;
    private static final int[] NO_TRAYS = {-1, 4, 5, 8, 16, SMALL, BIG};

    private EdgesOfTraysTest() {
    }

    public static void main(String[] args) {
        trayTrays();
        traySorts();
        trayMany();
        trayIsOfZeros();
        trayThrowsInOrder();
        traysByThemselves();
        writeTrays();
        writeMissing();
        writePlaces();
        writeThrowsInOrder();
        writeCutToEightBits();
        writeCutToSixteenBits();
        writeCutToThirtyTwoBits();
        writeSixtyFourBits();
        writeComesToItsPlace();
        takeTrays();
        takeHouseholds();
        takeMissing();
        takeMany();
        takeNumbers();
        takeNoneIsToldThen();
        takeFromTheFirstMonth();
        takeThrowsInOrder();
        imageNumbers();
        imageAsItWas();
        imageHoldsAll();
        imageHoldsNotTheseFour();
        imageIsNotChanged();
        imageHoldsItsDoubts();
        restoreNumbers();
        restoreNoneWasMade();
        restoreTakesHouseholdsAway();
        restoreAgain();
        countOfEach();
        countOthers();
        countOfTheGreatest();
        Check.end();
    }

    private static void due(String what, Object want, Check.Call call) {
        Check.due(what, want, call);
    }

    private static Object tray(CoalStreet x, int tray, int sort, int many) {
        x.tray(tray, sort, many);
        return Twins.NOTHING;
    }

    private static Object image(CoalStreet x, int i) {
        x.image(i);
        return Twins.NOTHING;
    }

    private static Object restore(CoalStreet x, int i) {
        x.restore(i);
        return Twins.NOTHING;
    }

    // ---- promise 35: "A TRAY is a row of so many 0s. NoSuchElementException: no such TRAY (as below);
    // IllegalArgumentException: no such sort, or not so many." "TRAYS 0 to 3 .. rows of 0 to 40 numbers"

    private static void trayTrays() {
        for (int i = 0; i < 4; i++) {
            int t = i;
            due("tray " + i, Twins.NOTHING, () -> tray(new CoalStreet(), t, 0, 1));
            due("tray " + i, Twins.NOTHING, () -> tray(Twins.rich(), t, 3, 40));
        }
        for (int t : NO_TRAYS) {
            Twins.stays("tray " + t, NSE, x -> tray(x, t, 0, 1));
        }
    }

    private static void traySorts() {
        for (int i = 0; i < 4; i++) {
            int sort = i;
            due("sort " + i, Twins.NOTHING, () -> tray(new CoalStreet(), 0, sort, 1));
        }
        for (int sort : new int[] {-1, 4, 5, 8, 16, 64, SMALL, BIG}) {
            for (int t = 0; t < 4; t += 3) {
                int at = t;
                Twins.stays("sort " + sort, IAE, x -> tray(x, at, sort, 1));
            }
        }
    }

    private static void trayMany() {
        for (int i = 0; i <= 40; i++) {
            int many = i;
            for (int sort = 0; sort < 4; sort++) {
                CoalStreet x = new CoalStreet();
                x.tray(sort, sort, many);
                int t = sort;
                due("the place behind the last of " + many, OUT, () -> x.write(t, many, 1));
                due("the last place of " + many, many == 0 ? OUT : "1", () -> x.write(t, many - 1, 1));
            }
        }
        for (int many : new int[] {-1, 41, 42, 64, 256, SMALL, BIG}) {
            for (int sort = 0; sort < 4; sort++) {
                int of = sort;
                Twins.stays("a tray of " + many, IAE, x -> tray(x, 0, of, many));
                Twins.stays("a missing tray of " + many, IAE, x -> tray(x, 3, of, many));
            }
        }
    }

    private static void trayIsOfZeros() {
        CoalStreet x = Streets.trusting(8);
        for (int sort = 0; sort < 4; sort++) {
            int t = sort;
            x.tray(t, sort, 6);
            zeros(x, t, "a new tray");
            Twins.lay(x, t, sort, 1, 2, 3, 4, 5, 6);
            x.tray(t, sort, 6);
            zeros(x, t, "a tray laid again");
            Twins.lay(x, t, 3 - sort, 6, 5, 4, 3, 2, 1);
            x.tray(t, sort, 3);
            x.tray(t, sort, 6);
            zeros(x, t, "a tray that was shorter between");
        }
    }

    private static void zeros(CoalStreet x, int tray, String what) {
        due(what, 6, () -> x.take(tray, 0));
        for (int m = 0; m < 6; m++) {
            int month = m;
            due(what + " at " + m, 0, () -> x.want(0, month, 8));
        }
    }

    private static void trayThrowsInOrder() {
        for (int t : NO_TRAYS) {
            Twins.stays("no tray, no sort, not so many", NSE, x -> tray(x, t, 4, 41));
        }
        Twins.stays("no sort, not so many", IAE, x -> tray(x, 0, -1, -1));
    }

    private static void traysByThemselves() {
        CoalStreet x = Streets.trusting(8);
        for (int t = 0; t < 4; t++) {
            x.tray(t, t, 6);
            for (int p = 0; p < 6; p++) {
                x.write(t, p, t + p);
            }
        }
        for (int t = 0; t < 4; t++) {
            int tray = t;
            due("take", 6, () -> x.take(tray, 0));
            for (int p = 0; p < 6; p++) {
                int place = p;
                due("tray " + t + " at " + p, t + p, () -> x.want(0, place, 0));
            }
        }
        x.tray(1, 0, 40);
        for (int p = 0; p < 40; p++) {
            x.write(1, p, 7);
        }
        due("the next tray", 6, () -> x.take(2, 0));
        due("the next tray's first", 2, () -> x.want(0, 0, 0));
        due("the tray before", 6, () -> x.take(0, 0));
        due("the tray before's last", 5, () -> x.want(0, 5, 0));
    }

    // ---- promise 36: "A number comes to a place of a TRAY, cut to its sort: as it is there. IllegalStateException: it is
    // MISSING; IndexOutOfBoundsException: it has no such place."

    private static void writeTrays() {
        for (int t : NO_TRAYS) {
            Twins.stays("write to tray " + t, NSE, x -> x.write(t, 0, 1));
        }
    }

    private static void writeMissing() {
        Twins.stays("write to a missing tray", ISE, x -> x.write(3, 0, 1));
        CoalStreet x = Twins.rich();
        x.tray(3, 0, 0);
        due("an empty tray isn't missing", OUT, () -> x.write(3, 0, 1));
    }

    private static void writePlaces() {
        due("the first place", 7, () -> Twins.rich().write(0, 0, 7));
        due("the last place", 7, () -> Twins.rich().write(0, 2, 7));
        for (int place : new int[] {-1, 3, 4, 39, 40, 41, 256, SMALL, BIG}) {
            Twins.stays("place " + place + " of three", OUT, x -> x.write(0, place, 7));
        }
        for (int place : new int[] {-1, 0, 1, SMALL, BIG}) {
            Twins.stays("place " + place + " of none", OUT, () -> {
                CoalStreet x = Twins.rich();
                x.tray(3, 3, 0);
                return x;
            }, x -> x.write(3, place, 7));
        }
        CoalStreet x = new CoalStreet();
        x.tray(0, 0, 40);
        x.tray(3, 3, 40);
        for (int p = 0; p < 40; p++) {
            int place = p;
            due("place " + p + " of forty", p, () -> x.write(0, place, place));
            due("place " + p + " of forty", 40 - p, () -> x.write(3, place, 40 - place));
        }
        due("place 40 of forty", OUT, () -> x.write(0, 40, 1));
        due("place -1 of forty", OUT, () -> x.write(0, -1, 1));
        due("place 40 of forty", OUT, () -> x.write(3, 40, 1));
        due("place -1 of forty", OUT, () -> x.write(3, -1, 1));
    }

    private static void writeThrowsInOrder() {
        for (int t : NO_TRAYS) {
            Twins.stays("no tray, no place", NSE, x -> x.write(t, -1, 1));
        }
        Twins.stays("missing, no place", ISE, x -> x.write(3, -1, 1));
        Twins.stays("missing, no place", ISE, x -> x.write(3, 40, 1));
    }

    private static void cut(int sort, long... pairs) {
        CoalStreet x = new CoalStreet();
        x.tray(0, sort, 2);
        for (int i = 0; i < pairs.length; i += 2) {
            long v = pairs[i];
            due(v + " cut to sort " + sort, pairs[i + 1], () -> x.write(0, 1, v));
        }
    }

    private static void writeCutToEightBits() {
        cut(0, 0, 0, 1, 1, -1, -1, 127, 127, 128, -128, 129, -127, 255, -1, 256, 0, 257, 1, -128, -128, -129, 127, -256, 0,
                1L << 32, 0, (1L << 40) + 5, 5, Long.MAX_VALUE, -1, Long.MIN_VALUE, 0);
    }

    private static void writeCutToSixteenBits() {
        cut(1, 0, 0, 1, 1, -1, -1, 32767, 32767, 32768, -32768, 32769, -32767, 65535, -1, 65536, 0, 65537, 1, -32768,
                -32768, -32769, 32767, 128, 128, 1L << 32, 0, Long.MAX_VALUE, -1, Long.MIN_VALUE, 0);
    }

    private static void writeCutToThirtyTwoBits() {
        cut(2, 0, 0, 1, 1, -1, -1, BIG, BIG, 1L << 31, SMALL, (1L << 31) + 1, SMALL + 1, (1L << 32) - 1, -1, 1L << 32, 0,
                (1L << 32) + 1, 1, SMALL, SMALL, SMALL - 1L, BIG, 65536, 65536, Long.MAX_VALUE, -1, Long.MIN_VALUE, 0);
    }

    private static void writeSixtyFourBits() {
        cut(3, 0, 0, 1, 1, -1, -1, Long.MAX_VALUE, Long.MAX_VALUE, Long.MIN_VALUE, Long.MIN_VALUE, 1L << 32, 1L << 32,
                BIG + 1L, BIG + 1L, 255, 255);
    }

    private static void writeComesToItsPlace() {
        CoalStreet x = Streets.trusting(8);
        for (int sort = 0; sort < 4; sort++) {
            for (int p = 0; p < 6; p++) {
                Twins.lay(x, sort, sort, 1, 1, 1, 1, 1, 1);
                x.write(sort, p, 5);
                x.take(sort, 0);
                for (int m = 0; m < 6; m++) {
                    int month = m;
                    due("written to " + p + ", at " + m, m == p ? 5 : 1, () -> x.want(0, month, 0));
                }
            }
        }
        Twins.lay(x, 0, 0, 256 + 6);
        due("what was cut is there as it was told", 1, () -> x.take(0, 0));
        due("6", 6, () -> x.want(0, 0, 0));
        Twins.lay(x, 1, 1, -65536 + 7);
        due("what was cut is there as it was told", 1, () -> x.take(1, 0));
        due("7", 7, () -> x.want(0, 0, 0));
        Twins.lay(x, 2, 2, (1L << 32) + 8);
        due("what was cut is there as it was told", 1, () -> x.take(2, 0));
        due("8", 8, () -> x.want(0, 0, 0));
        Twins.lay(x, 3, 3, (1L << 32) + 8);
        due("64 bits aren't cut", IAE, () -> x.take(3, 0));
    }

    // ---- promise 37: "The numbers of a TRAY are WANTS of a HOUSEHOLD, from MONTH 0 on: how many. NoSuchElementException:
    // also no such HOUSEHOLD; IllegalStateException: it is MISSING; IllegalArgumentException: there are more than 6, or
    // one isn't 0 to 8 (none is told then)."

    private static void takeTrays() {
        for (int t : NO_TRAYS) {
            Twins.stays("take tray " + t, NSE, x -> x.take(t, 0));
        }
        int[] due = {3, 6, 0};
        for (int t = 0; t < 3; t++) {
            int tray = t;
            due("take tray " + t, due[t], () -> Twins.rich().take(tray, 0));
            due("take tray " + t, due[t], () -> Twins.rich().take(tray, 4));
        }
    }

    private static void takeHouseholds() {
        Twins.noHouses("take", NSE, (x, h) -> x.take(0, h));
        Twins.noHouses("take a missing tray", NSE, (x, h) -> x.take(3, h));
        Twins.noHouses("take tray 4", NSE, (x, h) -> x.take(4, h));
    }

    private static void takeMissing() {
        Twins.stays("take a missing tray", ISE, x -> x.take(3, 0));
        Twins.stays("take a missing tray for the last one", ISE, x -> x.take(3, 4));
    }

    private static CoalStreet laid(int sort, long... numbers) {
        CoalStreet x = Twins.rich();
        Twins.lay(x, 3, sort, numbers);
        return x;
    }

    private static void takeMany() {
        for (int many = 0; many <= 40; many++) {
            long[] numbers = new long[many];
            int due = many;
            if (many <= 6) {
                due("take " + many, due, () -> laid(1, numbers).take(3, 2));
            } else {
                Twins.stays("take " + many, IAE, () -> laid(1, numbers), x -> x.take(3, 2));
            }
        }
        Twins.stays("take none: nothing changes", 0, () -> laid(0), x -> x.take(3, 0));
    }

    private static void takeNumbers() {
        for (int at = 0; at < 6; at++) {
            long[] numbers = {1, 2, 3, 4, 5, 6};
            for (long v : new long[] {0, 8}) {
                numbers[at] = v;
                CoalStreet x = laid(3, numbers);
                int month = at;
                due("take " + v, 6, () -> x.take(3, 0));
                due(v + " in month " + at, v, () -> x.want(0, month, 1));
            }
            for (long v : new long[] {-1, 9, 10, 256, 1L << 32, 1L << 32 | 1, -1L << 32 | 1, Long.MAX_VALUE,
                Long.MIN_VALUE}) {
                long[] wrong = numbers.clone();
                wrong[at] = v;
                Twins.stays("take " + v + " at " + at, IAE, () -> laid(3, wrong), x -> x.take(3, 0));
            }
            long[] eight = numbers.clone();
            eight[at] = 255;
            Twins.stays("take 8 bits below 0 at " + at, IAE, () -> laid(0, eight), x -> x.take(3, 0));
        }
    }

    private static void takeNoneIsToldThen() {
        CoalStreet x = Streets.trusting(1);
        for (int m = 0; m < 6; m++) {
            x.want(0, m, m);
        }
        Twins.lay(x, 0, 0, 8, 8, 8, 8, 8, 9);
        due("the last one is wrong", IAE, () -> x.take(0, 0));
        for (int m = 0; m < 6; m++) {
            int month = m;
            due("none is told", m, () -> x.want(0, month, month));
        }
        Twins.lay(x, 0, 0, 8, 8, 8, 8, 8, 8, 8);
        due("one too many", IAE, () -> x.take(0, 0));
        for (int m = 0; m < 6; m++) {
            int month = m;
            due("none is told", m, () -> x.want(0, month, month));
        }
    }

    private static void takeFromTheFirstMonth() {
        for (int many = 0; many <= 6; many++) {
            CoalStreet x = Streets.trusting(7, 7, 7);
            for (int i = 0; i < 18; i++) {
                x.want(i / 6, i % 6, 7);
            }
            long[] numbers = new long[many];
            for (int i = 0; i < many; i++) {
                numbers[i] = i + 1;
            }
            Twins.lay(x, 0, 2, numbers);
            int due = many;
            due("take", due, () -> x.take(0, 1));
            for (int i = 0; i < 18; i++) {
                int at = i;
                due("want of " + i / 6 + " in " + i % 6, i / 6 == 1 && i % 6 < many ? i % 6 + 1 : 7,
                        () -> x.want(at / 6, at % 6, 0));
            }
        }
    }

    private static void takeThrowsInOrder() {
        Twins.stays("no tray, nobody", NSE, x -> x.take(4, 5));
        Twins.stays("nobody, missing", NSE, x -> x.take(3, 5));
        Twins.stays("nobody, too many", NSE, () -> laid(0, new long[7]), x -> x.take(3, 5));
        Twins.stays("nobody, a wrong number", NSE, () -> laid(0, 9), x -> x.take(3, -1));
        Twins.stays("too many, a wrong number", IAE, () -> laid(0, 9, 9, 9, 9, 9, 9, 9), x -> x.take(3, 0));
    }

    // ---- promises 38 and 39: "An IMAGE is made. NoSuchElementException: no such one." "All is as in an IMAGE.
    // NoSuchElementException: no such one; IllegalStateException: none was made."

    private static final int[] NO_IMAGES = {-1, 3, 4, 8, SMALL, BIG};

    private static void imageNumbers() {
        for (int i = 0; i < 3; i++) {
            int at = i;
            due("image " + i, Twins.NOTHING, () -> image(new CoalStreet(), at));
        }
        for (int i : NO_IMAGES) {
            Twins.stays("image " + i, NSE, x -> image(x, i));
            Twins.stays("image " + i + " of a new one", NSE, CoalStreet::new, x -> image(x, i));
        }
    }

    /** To make an image, and to go on from it at once, changes nothing else. */
    private static void imageAsItWas() {
        for (int i = 0; i < 3; i++) {
            int at = i;
            Supplier<CoalStreet> maker = () -> {
                CoalStreet x = Twins.rich();
                x.image(at);
                return x;
            };
            Twins.stays("restore " + i + " at once", Twins.NOTHING, maker, x -> restore(x, at));
            Twins.stays("image " + i + " once more", Twins.NOTHING, maker, x -> image(x, at));
            Twins.stays("image " + i + " of a new one", Twins.NOTHING, () -> {
                CoalStreet x = new CoalStreet();
                x.image(at);
                return x;
            }, x -> {
                x.house(3);
                x.by(3);
                return restore(x, at);
            });
        }
    }

    /** One thing after the other is changed behind an image, each through each call that can change it. */
    private static void imageHoldsAll() {
        Twins.Use[] changes = {x -> x.house(5), x -> x.want(0, 0, 8), x -> x.want(4, 5, 0), x -> x.cellar(0, 8),
            x -> x.cellar(4, 8), x -> x.bar(0, 4), x -> x.bar(2, 0), x -> x.trust(4, 0, false), x -> x.trust(0, 4, true),
            x -> x.pay(0, 0), x -> x.pay(4, 1), x -> x.by(1000), x -> x.doubt(0, 3, 3), x -> x.doubt(3, 8, 8),
            x -> x.doubt(4, 0, 9), x -> x.take(0, 0), x -> x.take(1, 4), x -> restore(x, 2)};
        for (int i = 0; i < changes.length; i++) {
            Twins.Use change = changes[i];
            Twins.stays("change " + i + " behind an image", Twins.NOTHING, EdgesOfTraysTest::imaged, x -> {
                change.of(x);
                return restore(x, 1);
            });
            Check.same("change " + i + " is one", false, Twins.all(imaged()).equals(changed(change)));
        }
        String[] lines = {"above;", "step 4 9;", "step 1 12;", "cart 5 6;", "cart 2 4;", "gather 2;", "keep 1;",
            "months 3;", "rise 1 2;", "rise 4 1;", "late 7;", "rule alone;"};
        for (int left = 0; left < lines.length; left++) {
            StringBuilder text = new StringBuilder();
            for (int i = 0; i < lines.length; i++) {
                text.append(i == left ? "" : lines[i]);
            }
            Twins.stays("without " + lines[left] + " behind an image", Twins.NOTHING, () -> {
                CoalStreet x = imaged();
                Streets.tell(x, "late 5;");
                x.restore(1);
                return x;
            }, x -> {
                Streets.tell(x, text.toString());
                return restore(x, 1);
            });
        }
    }

    private static CoalStreet imaged() {
        CoalStreet x = Twins.rich();
        x.text(0);
        Streets.tell(x, "above;step 4 9;step 1 12;cart 5 6;cart 2 4;gather 2;keep 1;months 3;rise 1 2;rise 4 1;late 7;"
                + "rule alone;");
        x.image(1);
        return x;
    }

    private static String changed(Twins.Use change) {
        CoalStreet x = imaged();
        change.of(x);
        return Twins.all(x);
    }

    /** "all but the tape, the FAULT, the FRACTION and TRAYS" */
    private static void imageHoldsNotTheseFour() {
        CoalStreet x = Streets.trusting(3, 4);
        Streets.tell(x, "step 1 10;step 5 8;late 3;rule alike;");
        x.image(0);
        Streets.feed(x, "late 9;");
        x.image(1);
        Streets.feed(x, "?");
        due("a text with a FAULT", -11, () -> x.text(40));
        x.ruled(3, 0);
        Twins.lay(x, 0, 0, 5);
        x.restore(1);
        due("the tape of which an image was made", 0, () -> x.count(4));
        x.restore(0);
        due("the tape", 0, () -> x.count(4));
        due("the FAULT", 1, () -> x.fault(0));
        due("its place", 20, () -> x.fault(1));
        due("the FRACTION", 28, () -> x.upper());
        due("the FRACTION", 1, () -> x.lower());
        due("the TRAY", 1, () -> x.take(0, 0));
        due("its number", 5, () -> x.want(0, 0, 0));
        Streets.feed(x, "late 8;");
        x.restore(1);
        due("the tape stays", 20, () -> x.count(4));
        due("and all that is on it", 1, () -> x.text(7));
        due("late", 8, () -> x.count(7));
        CoalStreet y = new CoalStreet();
        y.image(0);
        y.tray(0, 0, 2);
        y.restore(0);
        due("a tray that was MISSING then", OUT, () -> y.write(0, 2, 1));
        due("a tray that is MISSING still", ISE, () -> y.write(1, 0, 1));
    }

    /** What comes behind an image doesn't change it, nor does another image. */
    private static void imageIsNotChanged() {
        for (int i = 0; i < 3; i++) {
            int one = i;
            int other = (i + 1) % 3;
            Supplier<CoalStreet> maker = () -> {
                CoalStreet x = new CoalStreet();
                for (int h = 0; h < 4; h++) {
                    x.house(h);
                }
                x.image(one);
                return x;
            };
            CoalStreet x = maker.get();
            x.house(7);
            x.want(0, 0, 8);
            x.trust(0, 1, true);
            x.bar(2, 3);
            x.doubt(1, 2, 3);
            x.pay(3, 9);
            x.by(9);
            Streets.tell(x, "step 1 5;rule alone;");
            x.image(other);
            x.restore(one);
            due("households as then", 4, () -> x.count(0));
            due("want as then", 0, () -> x.want(0, 0, 1));
            due("trust as then", false, () -> x.trust(0, 1, true));
            due("not barred as then", true, () -> x.bar(2, 3));
            due("no doubt as then", 1, () -> x.doubt(1, 8, 8));
            due("pay as then", 0, () -> x.pay(3, 1));
            due("D as then", 1, () -> x.by(2));
            due("no steps as then", 0, () -> x.count(1));
            due("rule as then", 0, () -> x.count(6));
            x.restore(other);
            due("households of the other one", 5, () -> x.count(0));
            due("want of the other one", 8, () -> x.want(0, 0, 1));
            due("trust of the other one", true, () -> x.trust(0, 1, false));
            due("barred in the other one", false, () -> x.bar(3, 2));
            due("a doubt of the other one", 2, () -> x.doubt(1, 8, 8));
            due("pay of the other one", 9, () -> x.pay(3, 1));
            due("D of the other one", 9, () -> x.by(2));
            due("steps of the other one", 1, () -> x.count(1));
            due("rule of the other one", 1, () -> x.count(6));
            due("the third one wasn't made", ISE, () -> restore(x, (one + 2) % 3));
        }
    }

    /** Two images of which each holds its own DOUBTS of one household, in the same places. */
    private static void imageHoldsItsDoubts() {
        for (int h = 0; h < 7; h++) {
            CoalStreet x = Streets.trusting(new int[7]);
            Streets.tell(x, "late 1;");
            x.image(0);
            doubts(x, h, 4, 1, 8, 1);
            x.image(1);
            x.restore(0);
            doubts(x, h, 1, 5, 2, 5);
            x.image(2);
            x.restore(1);
            risked(x, h, 6, 1);
            x.restore(2);
            risked(x, h, 3, 2);
            x.restore(1);
            x.doubt(h, 0, 7);
            risked(x, h, 4, 3);
            x.restore(0);
            risked(x, h, 0, 1);
        }
    }

    private static void doubts(CoalStreet x, int house, int... pairs) {
        for (int i = 0; i < pairs.length; i += 2) {
            x.doubt(house, pairs[i], pairs[i + 1]);
        }
    }

    private static void risked(CoalStreet x, int house, long upper, long lower) {
        x.risk(1 << house, 0);
        Check.same("what " + house + " wants in the mean", upper + "/" + lower, x.upper() + "/" + x.lower());
    }

    private static void restoreNumbers() {
        for (int i : NO_IMAGES) {
            Twins.stays("restore " + i, NSE, x -> restore(x, i));
            Twins.stays("restore " + i + " of a new one", NSE, CoalStreet::new, x -> restore(x, i));
        }
        due("restore 0", Twins.NOTHING, () -> restore(Twins.rich(), 0));
        due("restore 2", Twins.NOTHING, () -> restore(Twins.rich(), 2));
    }

    private static void restoreNoneWasMade() {
        Twins.stays("the image between the others", ISE, x -> restore(x, 1));
        for (int i = 0; i < 3; i++) {
            int at = i;
            Twins.stays("none was made of " + i, ISE, () -> Streets.trusting(1, 2), x -> restore(x, at));
            CoalStreet y = new CoalStreet();
            for (int j = 0; j < 3; j++) {
                if (j != i) {
                    y.image(j);
                }
            }
            due("none was made of " + i + " but of the others", ISE, () -> restore(y, at));
        }
    }

    private static void restoreTakesHouseholdsAway() {
        CoalStreet x = new CoalStreet();
        x.house(1);
        x.image(0);
        for (int i = 1; i < 7; i++) {
            x.house(8);
            x.want(i, 0, 8);
            x.pay(i, 5);
            x.doubt(i, 1, 1);
            x.trust(0, i, true);
            x.trust(i, 0, true);
        }
        x.bar(5, 6);
        due("seven", -1, () -> x.house(0));
        x.restore(0);
        due("one is left", 1, () -> x.count(0));
        due("no second one", NSE, () -> x.want(1, 0, 0));
        due("no set of two", IAE, () -> x.holder(2));
        for (int i = 1; i < 7; i++) {
            int h = i;
            due("a new one comes", h, () -> x.house(2));
            due("it wants nothing", 0, () -> x.want(h, 0, 0));
            due("it pays nothing", 0, () -> x.pay(h, 0));
            due("it has no doubts", 1, () -> x.doubt(h, 1, 1));
            due("it trusts nobody", false, () -> x.trust(h, 0, false));
            due("nobody trusts it", false, () -> x.trust(0, h, false));
            due("its cellar", 2, () -> x.cellar(h, 2));
        }
        due("the last two aren't barred", true, () -> x.bar(5, 6));
    }

    private static void restoreAgain() {
        CoalStreet x = Streets.trusting(2);
        Streets.tell(x, "step 1 10;");
        x.image(0);
        for (int i = 0; i < 3; i++) {
            x.want(0, 0, 3 + i);
            int due = 10 * (3 + i);
            due("changed", due, () -> x.cost(1));
            x.restore(0);
            due("as in the image", 20, () -> x.cost(1));
        }
    }

    // ---- promise 40: "0 HOUSEHOLDS, 1 steps, 2 CARTS, 3 MONTHS that count, 4 bytes on the tape, 5 DOUBTS of all, 6 RULE
    // (0 parts, 1 alone, 2 alike), 7 late, 8 gather, 9 keep; NONE for others."

    private static void countOfEach() {
        CoalStreet x = new CoalStreet();
        x.house(0);
        x.house(0);
        x.house(0);
        Streets.tell(x, "step 1 1;step 2 1;step 3 1;step 4 1;cart 1 1;cart 1 1;months 5;late 21;gather 22;keep 23;"
                + "rule alone;");
        Streets.feed(x, " ".repeat(60));
        for (int i = 0; i < 6; i++) {
            x.doubt(i % 3, 1, 1);
        }
        int[] due = {3, 4, 2, 5, 60, 6, 1, 21, 22, 23};
        for (int i = 0; i < due.length; i++) {
            int what = i;
            due("count(" + i + ")", due[i], () -> x.count(what));
        }
        String[] rules = {"parts", "alone", "alike"};
        for (int i = 0; i < 3; i++) {
            int rule = i;
            due("rule", 1, () -> Streets.tell(new CoalStreet(), "rule " + rules[rule] + ";"));
            CoalStreet y = new CoalStreet();
            Streets.tell(y, "rule " + rules[i] + ";");
            due("rule " + rules[i], i, () -> y.count(6));
        }
    }

    private static void countOthers() {
        for (int what : new int[] {-1, 10, 11, 16, 256, SMALL, BIG}) {
            Twins.stays("count(" + what + ")", -1, x -> x.count(what));
            due("count(" + what + ") of a new one", -1, () -> new CoalStreet().count(what));
        }
    }

    private static void countOfTheGreatest() {
        CoalStreet x = new CoalStreet();
        for (int i = 0; i < 8; i++) {
            x.house(8);
        }
        for (int i = 0; i < 35; i++) {
            x.doubt(i % 7, 8, 9);
        }
        Streets.tell(x, "step 1 1;step 2 1;step 3 1;step 4 1;step 5 1;step 60 99;cart 1 1;cart 1 1;cart 60 99;cart 60 0;"
                + "months 6;late 999;gather 99;keep 99;rule alike;");
        for (int i = 0; i < 16; i++) {
            x.feed(0, 0, 0, 0, 0);
        }
        int[] due = {7, 6, 4, 6, 300, 28, 2, 999, 99, 99};
        for (int i = 0; i < due.length; i++) {
            int what = i;
            due("count(" + i + ") at most", due[i], () -> x.count(what));
        }
    }
}
