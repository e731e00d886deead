import java.util.function.Supplier;

/** The edges that promises 9 to 13 name, and the terms of TARIFF, FAULTS, PRICE and BUYS: each by itself. */
public final class EdgesOfTariffTest {
    private static final String NSE = Twins.NSE;
    private static final String IAE = Twins.IAE;
    private static final int BIG = Twins.BIG;
    private static final int SMALL = Twins.SMALL;
    private static final int BLANKS = 0x20202020;

    private EdgesOfTariffTest() {
    }

    public static void main(String[] args) {
        feedHowMany();
        feedFull();
        feedAgainWhenRead();
        feedHighestFirst();
        textFirstBytes();
        textBounds();
        textEmpty();
        textFull();
        textTapeIsEmptyThen();
        textManyLines();
        textFaultAnswers();
        textWithFaultIsNoTariff();
        textWithoutLines();
        textOfPartsOfTariff();
        laterLinesStrike();
        stepsAndCartsAreAllTold();
        tokenStarts();
        tokenBlanks();
        tokenWords();
        tokenNumbers();
        boundsOfNumbers();
        faultTwo();
        faultFour();
        faultFirstAlongTheText();
        faultLeastKind();
        faultPlaceAtTheEnd();
        faultOfTheLatestText();
        faultOtherWhat();
        priceBounds();
        priceOfSteps();
        priceAbove();
        priceNone();
        priceOfALaterTariff();
        priceCarts();
        buysBounds();
        buysOfNone();
        buysInSeveral();
        buysNone();
        buysRise();
        Check.end();
    }

    private static void due(String what, Object want, Check.Call call) {
        Check.due(what, want, call);
    }

    private static CoalStreet told(String text) {
        CoalStreet x = new CoalStreet();
        int lines = Streets.tell(x, text);
        Check.same("the text " + text + " has no fault", true, lines >= 0);
        return x;
    }

    // ---- promise 9: "Twenty bytes come behind those on the tape, the highest of each int first: how many it has;
    // NONE, and nothing changes, if there would be more than 300."

    private static CoalStreet filled(int times) {
        CoalStreet x = Streets.trusting(1, 2);
        Streets.tell(x, "step 1 10;");
        for (int i = 0; i < times; i++) {
            x.feed(BLANKS, BLANKS, BLANKS, BLANKS, BLANKS);
        }
        return x;
    }

    private static void feedHowMany() {
        CoalStreet x = new CoalStreet();
        for (int i = 1; i <= 15; i++) {
            due("feed " + i, 20 * i, () -> x.feed(-1, 0, 1, SMALL, BIG));
            due("count(4)", 20 * i, () -> x.count(4));
        }
        due("the sixteenth feed", -1, () -> x.feed(-1, 0, 1, SMALL, BIG));
        due("the seventeenth feed", -1, () -> x.feed(-1, 0, 1, SMALL, BIG));
        due("count(4)", 300, () -> x.count(4));
    }

    private static void feedFull() {
        due("feed up to 300", 300, () -> filled(14).feed(-1, -1, -1, -1, -1));
        Twins.stays("feed with 300", -1, () -> filled(15), x -> x.feed(-1, -1, -1, -1, -1));
        Twins.stays("feed with 300 of something else", -1, () -> {
            CoalStreet x = Twins.rich();
            for (int i = 0; i < 13; i++) {
                x.feed(BLANKS, BLANKS, BLANKS, BLANKS, BLANKS);
            }
            return x;
        }, x -> x.feed(0, 0, 0, 0, 0));
    }

    private static void feedAgainWhenRead() {
        CoalStreet x = filled(15);
        x.text(7);
        for (int i = 1; i <= 15; i++) {
            due("feed " + i + " behind text()", 20 * i, () -> x.feed(BLANKS, BLANKS, BLANKS, BLANKS, BLANKS));
        }
        due("feed 16 behind text()", -1, () -> x.feed(BLANKS, BLANKS, BLANKS, BLANKS, BLANKS));
    }

    /** Each of the twenty bytes is the one that tells where a text ends to be one. */
    private static void feedHighestFirst() {
        for (int i = 0; i < 20; i++) {
            int[] five = {BLANKS, BLANKS, BLANKS, BLANKS, BLANKS};
            five[i / 4] ^= (0x20 ^ 0x3f) << 24 - i % 4 * 8;
            CoalStreet x = new CoalStreet();
            x.feed(five[0], five[1], five[2], five[3], five[4]);
            due("a ? at " + i, -11, () -> x.text(20));
            due("its place", i, () -> x.fault(1));
            x.feed(BLANKS, BLANKS, BLANKS, BLANKS, BLANKS);
            x.feed(five[0], five[1], five[2], five[3], five[4]);
            due("a ? at " + (20 + i), -11, () -> x.text(40));
            due("its place", 20 + i, () -> x.fault(1));
        }
    }

    // ---- promise 10: "The first n bytes of the tape (which is empty then) are a TARIFF: how many LINES; -10 less the
    // FAULT. IllegalArgumentException: n is below 0 or above what it has."

    private static void textFirstBytes() {
        String text = "late 1;late 22;late 333;";
        int[] due = {0, -12, -12, -12, -12, -12, -12, 1, -12, -12, -12, -12, -12, -12, -12, 2, -12, -12, -12, -12, -12,
            -12, -12, -12, 3, 3};
        for (int n = 0; n < due.length; n++) {
            int bytes = n;
            CoalStreet x = new CoalStreet();
            Streets.feed(x, text);
            due("the first " + n + " bytes", due[n], () -> x.text(bytes));
            due("late of the first " + n, n == 7 ? 1 : n == 15 ? 22 : n >= 24 ? 333 : 0, () -> x.count(7));
            // Of a word that is cut the begin is told, of a line that is cut the end.
            int from = n < 7 ? 0 : n < 15 ? 7 : 15;
            due("the FAULT of the first " + n, due[n] >= 0 ? -1 : n - from < 4 ? from : n, () -> x.fault(1));
        }
    }

    private static void textBounds() {
        for (int times = 0; times <= 15; times++) {
            int fed = times;
            Supplier<CoalStreet> maker = () -> filled(fed);
            for (int n : new int[] {-1, 20 * fed + 1, 301, SMALL, BIG}) {
                Twins.stays("text(" + n + ") of " + 20 * fed, IAE, maker, x -> x.text(n));
            }
            due("text of all " + 20 * fed, 0, () -> maker.get().text(20 * fed));
            due("text of none of " + 20 * fed, 0, () -> maker.get().text(0));
        }
        Twins.stays("text(-1)", IAE, x -> x.text(-1));
        Twins.stays("text(41)", IAE, x -> x.text(41));
    }

    private static void textEmpty() {
        CoalStreet x = filled(0);
        due("the price of before", 10, () -> x.price(1));
        due("an empty text", 0, () -> x.text(0));
        due("is a TARIFF without steps", -1, () -> x.price(1));
        due("steps", 0, () -> x.count(1));
    }

    private static void textFull() {
        CoalStreet x = new CoalStreet();
        String text = "step 1 7;" + " ".repeat(283) + "late 77;";
        Streets.feed(x, text);
        due("300 bytes", 300, () -> x.count(4));
        due("a text of 300 bytes", 2, () -> x.text(300));
        due("its first bytes", 7, () -> x.price(1));
        due("its last bytes", 77, () -> x.count(7));
        CoalStreet y = new CoalStreet();
        Streets.feed(y, text);
        due("a text of 299 bytes", -12, () -> y.text(299));
        due("its FAULT", 299, () -> y.fault(1));
        CoalStreet z = new CoalStreet();
        Streets.feed(z, " ".repeat(299) + "?");
        due("the last byte of 300", -11, () -> z.text(300));
        due("its place", 299, () -> z.fault(1));
    }

    private static void textTapeIsEmptyThen() {
        String[] texts = {"late 5;", "late", "late 1000;", "?"};
        for (String text : texts) {
            for (int n = 0; n <= text.length(); n++) {
                CoalStreet x = new CoalStreet();
                Streets.feed(x, text);
                x.text(n);
                due("the tape behind text(" + n + ")", 0, () -> x.count(4));
                Streets.feed(x, "gather 8;");
                due("new bytes come at its begin", 1, () -> x.text(9));
                due("gather", 8, () -> x.count(8));
            }
        }
    }

    private static void textManyLines() {
        for (int lines = 0; lines <= 50; lines++) {
            int due = lines;
            due("lines", due, () -> Streets.tell(new CoalStreet(), "whole;".repeat(due)));
        }
    }

    private static void textFaultAnswers() {
        String[] texts = {"?", "late", "late 9;late 100;months 7;", "step 3 1;step 3 2;"};
        for (int i = 0; i < 4; i++) {
            CoalStreet x = new CoalStreet();
            String text = texts[i];
            due("-10 less the FAULT of " + text, -11 - i, () -> Streets.tell(x, text));
            due("the FAULT of " + text, i + 1, () -> x.fault(0));
        }
    }

    private static final String ALL = "above;step 1 12;step 3 9;cart 4 5;gather 6;keep 7;months 4;rise 2 8;late 55;"
            + "rule alike;";

    /** "A TEXT without a FAULT is the TARIFF from now on": one with a FAULT isn't, whatever stands ahead of it. */
    private static void textWithFaultIsNoTariff() {
        String[] faults = {"?", "1234", "late", "late ;", "late 1000;", "step 1 1;"};
        for (String fault : faults) {
            CoalStreet x = told(ALL);
            String text = "whole;step 1 1;cart 1 1;gather 1;keep 1;months 1;rise 2 1;late 1;rule alone;" + fault;
            Check.same("a FAULT", true, Streets.tell(x, text) < -10);
            isAll("behind " + text, x);
        }
    }

    private static void isAll(String when, CoalStreet x) {
        int[] due = {0, 2, 1, 4, 0, 0, 2, 55, 6, 7};
        for (int i = 0; i < due.length; i++) {
            int what = i;
            due("count(" + i + ") " + when, due[i], () -> x.count(what));
        }
        due("price " + when, 12 + 12 + 9 + 5, () -> x.price(3));
        due("rise " + when, 17 + 8, () -> x.buys(1, 2));
    }

    /** "Without: whole, no steps, no CARTS, gather, keep, rise, late 0, months 1, rule parts (as at first)." */
    private static void textWithoutLines() {
        CoalStreet x = told(ALL);
        isAll("as told", x);
        due("without lines", 0, () -> Streets.tell(x, ""));
        int[] due = {0, 0, 0, 1, 0, 0, 0, 0, 0, 0};
        for (int i = 0; i < due.length; i++) {
            int what = i;
            due("count(" + i + ") without", due[i], () -> x.count(what));
        }
        due("without steps", -1, () -> x.price(1));
        String[] parts = ALL.split(";");
        for (int left = 0; left < parts.length; left++) {
            CoalStreet y = told(ALL);
            StringBuilder text = new StringBuilder();
            for (int i = 0; i < parts.length; i++) {
                text.append(i == left ? "" : parts[i] + ";");
            }
            due("all but " + parts[left], parts.length - 1, () -> Streets.tell(y, text.toString()));
            withoutOne(parts[left], y);
        }
    }

    private static void withoutOne(String line, CoalStreet y) {
        String without = "without " + line;
        due("steps " + without, line.startsWith("step") ? 1 : 2, () -> y.count(1));
        due("carts " + without, line.startsWith("cart") ? 0 : 1, () -> y.count(2));
        due("months " + without, line.startsWith("months") ? 1 : 4, () -> y.count(3));
        due("rule " + without, line.startsWith("rule") ? 0 : 2, () -> y.count(6));
        due("late " + without, line.startsWith("late") ? 0 : 55, () -> y.count(7));
        due("gather " + without, line.startsWith("gather") ? 0 : 6, () -> y.count(8));
        due("keep " + without, line.startsWith("keep") ? 0 : 7, () -> y.count(9));
        int cart = line.startsWith("cart") ? 0 : 5;
        int three = line.equals("above") ? 27 : line.equals("step 3 9") ? 36 : 33;
        due("price " + without, line.equals("step 1 12") ? -1 : three + cart, () -> y.price(3));
        due("rise " + without, line.startsWith("rise") ? 0 : line.equals("step 1 12") ? 0 : 8,
                () -> y.buys(1, 2) - y.buys(1, 1));
    }

    private static void textOfPartsOfTariff() {
        CoalStreet x = told("late 5;");
        due("only what the text tells", 1, () -> Streets.tell(x, "keep 3;"));
        due("keep", 3, () -> x.count(9));
        due("late isn't told", 0, () -> x.count(7));
    }

    /** "Later LINES of one sort strike (rise: of that MONTH)" */
    private static void laterLinesStrike() {
        CoalStreet x = told("gather 5;gather 3;keep 4;keep 9;months 6;months 2;late 1;late 999;late 4;"
                + "rule alike;rule alone;");
        due("gather", 3, () -> x.count(8));
        due("keep", 9, () -> x.count(9));
        due("months", 2, () -> x.count(3));
        due("late", 4, () -> x.count(7));
        due("rule alone strikes alike", 1, () -> x.count(6));
        due("rule parts strikes alone", 0, () -> told("rule alone;rule parts;").count(6));
        due("rule alike strikes parts", 2, () -> told("rule parts;rule alike;").count(6));
        due("whole strikes above", 10, () -> told("step 1 10;step 2 5;above;whole;").price(2));
        due("above strikes whole", 15, () -> told("whole;above;step 1 10;step 2 5;").price(2));
        due("whole strikes again", 10, () -> told("whole;above;whole;step 1 10;step 2 5;").price(2));
        CoalStreet y = told("step 1 10;rise 0 1;rise 1 2;rise 2 3;rise 3 4;rise 4 5;rise 5 6;rise 3 0;rise 5 99;");
        int[] due = {11, 12, 13, 10, 15, 109};
        for (int m = 0; m < 6; m++) {
            int month = m;
            due("rise of month " + m, due[m], () -> y.buys(1, month));
        }
    }

    /** "steps and CARTS are all told" */
    private static void stepsAndCartsAreAllTold() {
        CoalStreet x = told("step 9 4;step 1 9;step 7 5;step 3 8;step 60 3;step 5 7;cart 9 9;cart 9 9;cart 1 2;cart 2 3;");
        due("steps", 6, () -> x.count(1));
        due("carts", 4, () -> x.count(2));
        CoalStreet y = told("step 9 4;step 1 9;step 7 5;step 3 8;step 60 3;step 5 7;");
        int[] due = {9, 9, 8, 8, 7, 7, 5, 5, 4, 4};
        for (int q = 1; q <= due.length; q++) {
            int sacks = q;
            due("price of " + q, due[q - 1] * q, () -> y.price(sacks));
        }
        due("price of 59", 59 * 4, () -> y.price(59));
        due("price of 60", 60 * 3, () -> y.price(60));
    }

    // ---- TOKENS: "as long as they go, between them blanks (10, 32): words (small letters), N (1 to 3 digits), the
    // sign ;." and "1 no TOKEN begins so (4 digits and more: at their first)."

    private static void fault(String text, int kind, int place) {
        CoalStreet x = told("late 31;");
        due("text " + text, -10 - kind, () -> Streets.tell(x, text));
        due("the FAULT of " + text, kind, () -> x.fault(0));
        due("its place in " + text, place, () -> x.fault(1));
        due("the TARIFF behind " + text, 31, () -> x.count(7));
    }

    /** Each of the 256 bytes where a line may begin. */
    private static void tokenStarts() {
        for (int b = 0; b < 256; b++) {
            String text = "whole;" + (char) b;
            if (b == 10 || b == 32) {
                due("blank " + b, 1, () -> Streets.tell(new CoalStreet(), text));
            } else if (b >= 'a' && b <= 'z' || b >= '0' && b <= '9' || b == ';') {
                fault(text, 2, 6);
            } else {
                fault(text, 1, 6);
            }
        }
    }

    private static void tokenBlanks() {
        due("no blanks where none is needed", 2, () -> Streets.tell(new CoalStreet(), "whole;above;"));
        due("blanks of both kinds", 2, () -> Streets.tell(new CoalStreet(), " \n whole\n \n;\n  step\n1 \n 5 ;\n"));
        fault("who le;", 2, 0);
        fault("late 1 2;", 2, 7);
        fault("late\t1;", 1, 4);
        fault("late\r\n1;", 1, 4);
        fault("late\u00a01;", 1, 4);
        CoalStreet x = new CoalStreet();
        due("a word beside a number", 1, () -> Streets.tell(x, "late12;"));
        due("late", 12, () -> x.count(7));
    }

    private static void tokenWords() {
        fault("wholewhole;", 2, 0);
        fault("wholestep 1 1;", 2, 0);
        fault("wholeS;", 1, 5);
        fault("whole_;", 1, 5);
        fault("Late 5;", 1, 0);
        fault("whole\u00e9;", 1, 5);
        fault("rule aloneparts;", 2, 5);
        for (String word : "whole above step cart gather keep months rise late rule parts alone alike".split(" ")) {
            fault(word.substring(0, word.length() - 1), 2, 0);
            fault(word + "s 1 1;", 2, 0);
            fault("whole;a" + word, 2, 6);
        }
    }

    private static void tokenNumbers() {
        CoalStreet x = new CoalStreet();
        String[] fives = {"late 5;", "late 05;", "late 005;"};
        for (String text : fives) {
            due(text, 1, () -> Streets.tell(x, text));
            due("late", 5, () -> x.count(7));
        }
        fault("late 0005;", 1, 5);
        fault("late 00005;", 1, 5);
        fault("late 9999999999999;", 1, 5);
        fault("late 5555", 1, 5);
        fault("keep 1000;", 1, 5);
        fault("0000", 1, 0);
        fault("rise 1 0000;", 1, 7);
        due("three digits", 1, () -> Streets.tell(x, "late 123;"));
        fault("late 12a;", 2, 7);
        fault("late +1;", 1, 5);
        fault("late -1;", 1, 5);
        fault("late 1.5;", 1, 6);
    }

    /** The last number that is taken and the first that isn't, of each number of each line. */
    private static void boundsOfNumbers() {
        bounds("step # 1;", 5, 1, 60);
        bounds("step 1 #;", 7, 1, 99);
        bounds("cart # 1;", 5, 1, 60);
        bounds("cart 1 #;", 7, 0, 99);
        bounds("gather #;", 7, 0, 99);
        bounds("keep #;", 5, 0, 99);
        bounds("months #;", 7, 1, 6);
        bounds("rise # 1;", 5, 0, 5);
        bounds("rise 1 #;", 7, 0, 99);
        bounds("late #;", 5, 0, 999);
        due("step 60 is told", 180, () -> told("step 60 3;").price(60));
        due("step 60 isn't that of 59", -1, () -> told("step 60 3;").price(59));
        due("step of 99", 99, () -> told("step 1 99;").price(1));
        due("step of 1", 1, () -> told("step 1 1;").price(1));
        due("cart of 60", 60 + 7, () -> told("step 1 1;cart 60 7;").price(60));
        due("cart of 60 for 61", 61 + 14, () -> told("step 1 1;cart 60 7;").price(61));
        due("cart of 1", 3 + 21, () -> told("step 1 1;cart 1 7;").price(3));
        due("cart for 99", 1 + 99, () -> told("step 1 1;cart 1 99;").price(1));
        due("cart for 0", 1, () -> told("step 1 1;cart 1 0;").price(1));
        due("gather 99", 99, () -> told("gather 99;").count(8));
        due("keep 99", 99, () -> told("keep 99;").count(9));
        due("months 6", 6, () -> told("months 6;").count(3));
        due("months 1", 1, () -> told("months 1;").count(3));
        due("rise 0 99", 100, () -> told("step 1 1;rise 0 99;").buys(1, 0));
        due("rise 5 99", 100, () -> told("step 1 1;rise 5 99;").buys(1, 5));
        due("late 999", 999, () -> told("late 999;").count(7));
    }

    private static void bounds(String line, int place, int low, int high) {
        for (int v = 0; v <= 999; v++) {
            String text = line.replace("#", "" + v);
            if (v >= low && v <= high) {
                due(text, 1, () -> Streets.tell(new CoalStreet(), text));
            } else if (v < 3 || v <= high + 2 || v % 100 == 0 || v % 128 < 2) {
                fault(text, 3, place);
            }
        }
    }

    /** "2 it can't stand there": each kind of token in each place of each kind of line. */
    private static void faultTwo() {
        String[] tokens = {"whole", "step", "parts", "zzz", "5", ";"};
        String[] heads = {"", "whole ", "step ", "step 1 ", "step 1 1 ", "gather ", "gather 1 ", "rule ", "rule parts "};
        String[] taken = {"whole step", ";", "5", "5", ";", "5", ";", "parts", ";"};
        for (int i = 0; i < heads.length; i++) {
            for (String token : tokens) {
                boolean may = false;
                for (String t : taken[i].split(" ")) {
                    may |= t.equals(token);
                }
                if (!may) {
                    fault(heads[i] + token, 2, heads[i].length());
                } else if (!token.equals(";")) {
                    fault(heads[i] + token, 2, heads[i].length() + token.length());
                }
            }
        }
    }

    /** "4 an a that an earlier step has (at it); the first TOKEN of a 7th step, of a 5th cart." */
    private static void faultFour() {
        fault("step 5 9;step 5 9;", 4, 14);
        fault("step 1 9;step 5 9;step 1 8;", 4, 23);
        fault("step 60 9;step 060 9;", 4, 15);
        fault("step 5 9;step 5", 4, 14);
        StringBuilder six = new StringBuilder();
        for (int i = 1; i <= 6; i++) {
            String ahead = six.toString();
            for (int j = 1; j < i; j++) {
                fault(ahead + "step " + j + " 1;", 4, ahead.length() + 5);
            }
            six.append("step ").append(i).append(" 9;");
            due(six.toString(), i, () -> Streets.tell(new CoalStreet(), six.toString()));
        }
        fault(six + "step 9 9;", 4, six.length());
        fault(six + "\n step 9 9;", 4, six.length() + 2);
        fault(six + "step 6 9;", 4, six.length());
        fault(six + "step", 4, six.length());
        fault(six + "step ?", 4, six.length());
        due("steps end, others don't", 7, () -> Streets.tell(new CoalStreet(), six + "cart 1 1;"));
        String four = "cart 5 5;cart 5 5;cart 5 5;cart 5 5;";
        due("four carts, and all alike", 4, () -> Streets.tell(new CoalStreet(), four));
        fault(four + "cart 1 1;", 4, four.length());
        fault(four + " cart", 4, four.length() + 1);
        due("carts end, others don't", 5, () -> Streets.tell(new CoalStreet(), four + "step 1 1;"));
        due("six and four", 10, () -> Streets.tell(new CoalStreet(), six + four));
        fault(six + four + "step", 4, six.length() + four.length());
        fault(four + six + "cart", 4, six.length() + four.length());
        // Of an earlier TEXT no step and no cart is told in a new one.
        CoalStreet x = told(six + four);
        due("the same once more", 10, () -> Streets.tell(x, six + four));
        due("a text with a FAULT behind six steps", -12, () -> Streets.tell(x, six + four + ";"));
        due("the same behind a FAULT", 10, () -> Streets.tell(x, six + four));
    }

    /** "the first along the text" */
    private static void faultFirstAlongTheText() {
        fault("step 5 9;step 5 9;late 1000;", 4, 14);
        fault("late 5;;step 5 9;step 5 9;", 2, 7);
        fault("step 0 9;late 5555;", 3, 5);
        fault("step 0 0;", 3, 5);
        fault("months 9 whole ?", 3, 7);
        fault("late 5555;late ;", 1, 5);
        fault("whole whole ?", 2, 6);
        fault("? whole;", 1, 0);
    }

    /** "of one TOKEN the least kind" */
    private static void faultLeastKind() {
        String six = "step 1 9;step 2 9;step 3 9;step 4 9;step 5 9;step 6 9;";
        // Here step can't stand, and it would be of a seventh one.
        fault(six + "late step", 2, six.length() + 5);
        fault(six + "rule step", 2, six.length() + 5);
        fault(six + "step?", 4, six.length());
        String four = "cart 5 5;cart 5 5;cart 5 5;cart 5 5;";
        fault(four + "whole cart", 2, four.length() + 6);
        // 4 digits where a word is due, and beyond all bounds.
        fault("9999", 1, 0);
        fault("months 9999;", 1, 7);
        fault("step 1 1;step 0001 1;", 1, 14);
    }

    /** "(the end: the text's length)" */
    private static void faultPlaceAtTheEnd() {
        fault("late", 2, 4);
        fault("late ", 2, 5);
        fault("late 5", 2, 6);
        fault("late 5\n\n\n", 2, 9);
        fault("rule parts   ", 2, 13);
        CoalStreet x = new CoalStreet();
        Streets.feed(x, "late 5;");
        due("of more bytes on the tape", -12, () -> x.text(6));
        due("the text's length", 6, () -> x.fault(1));
        Streets.feed(x, "w");
        due("of one byte", -12, () -> x.text(1));
        due("it is a word that isn't known", 0, () -> x.fault(1));
        // What stands on the tape behind the text isn't of it: not a fourth digit, a letter, a sign.
        Streets.feed(x, "late 5555;");
        due("three digits of four", -12, () -> x.text(8));
        due("the text's length", 8, () -> x.fault(1));
        Streets.feed(x, "late 5;late");
        due("a line of more", 1, () -> x.text(7));
        due("late", 5, () -> x.count(7));
        Streets.feed(x, "rule alones;");
        due("a word of more letters", -12, () -> x.text(10));
        due("the text's length", 10, () -> x.fault(1));
        Streets.feed(x, " ".repeat(292) + "late 555");
        due("300 bytes that end with a digit", -12, () -> x.text(300));
        due("the text's length", 300, () -> x.fault(1));
        Streets.feed(x, " ".repeat(290) + "rule alone");
        due("300 bytes that end with a letter", -12, () -> x.text(300));
        due("the text's length", 300, () -> x.fault(1));
        Streets.feed(x, " ".repeat(290) + "late 5    ");
        due("300 bytes", -12, () -> x.text(300));
        due("the text's length", 300, () -> x.fault(1));
    }

    // ---- promise 11: "Of the latest text() that threw nothing, what 0: the FAULT (0 without, and at first), 1: its
    // place (NONE without). NONE for others."

    private static void faultOfTheLatestText() {
        CoalStreet x = new CoalStreet();
        due("at first", 0, () -> x.fault(0));
        due("at first", -1, () -> x.fault(1));
        Streets.tell(x, "late 5;?");
        due("the FAULT", 1, () -> x.fault(0));
        due("its place", 7, () -> x.fault(1));
        Streets.tell(x, "late");
        due("the next FAULT", 2, () -> x.fault(0));
        due("its place", 4, () -> x.fault(1));
        due("a text() that throws", IAE, () -> x.text(1));
        due("a text() that throws", IAE, () -> x.text(-1));
        due("the FAULT stays", 2, () -> x.fault(0));
        due("its place stays", 4, () -> x.fault(1));
        x.text(0);
        due("without", 0, () -> x.fault(0));
        due("without", -1, () -> x.fault(1));
        Streets.tell(x, "?");
        due("at place 0", 1, () -> x.fault(0));
        due("at place 0", 0, () -> x.fault(1));
        Streets.tell(x, "late 5;");
        due("without again", 0, () -> x.fault(0));
        due("without again", -1, () -> x.fault(1));
    }

    private static void faultOtherWhat() {
        CoalStreet x = new CoalStreet();
        for (int round = 0; round < 2; round++) {
            for (int what : new int[] {-1, 2, 3, 256, SMALL, BIG}) {
                due("fault(" + what + ")", -1, () -> x.fault(what));
            }
            Streets.tell(x, "late 5;;");
        }
    }

    // ---- promise 12: "PRICE of one BUY of q sacks (1 to 200; rise aside); NONE. IllegalArgumentException: q."

    private static void priceBounds() {
        CoalStreet x = told("step 1 10;rise 0 50;");
        due("price(1)", 10, () -> x.price(1));
        due("price(200)", 2000, () -> x.price(200));
        for (int q : new int[] {0, -1, 201, 202, 256, SMALL, BIG}) {
            Twins.stays("price(" + q + ")", IAE, y -> y.price(q));
            Twins.stays("price(" + q + ") without steps", IAE, CoalStreet::new, y -> y.price(q));
        }
    }

    /** "the step of n being the one with the greatest a that isn't above n: whole: q times p of the step of q" */
    private static void priceOfSteps() {
        CoalStreet x = told("step 20 3;step 2 9;step 10 5;");
        due("below all steps", -1, () -> x.price(1));
        due("at the first step", 18, () -> x.price(2));
        due("below the second one", 81, () -> x.price(9));
        due("at the second one", 50, () -> x.price(10));
        due("behind the second one", 55, () -> x.price(11));
        due("below the third one", 95, () -> x.price(19));
        due("at the third one", 60, () -> x.price(20));
        due("far behind the third one", 600, () -> x.price(200));
    }

    /** "above: p of the step of 1, of 2, .. of q together" */
    private static void priceAbove() {
        CoalStreet x = told("above;step 20 3;step 1 9;step 10 5;");
        due("above: 1", 9, () -> x.price(1));
        due("above: below the second step", 81, () -> x.price(9));
        due("above: at the second step", 86, () -> x.price(10));
        due("above: below the third step", 81 + 50, () -> x.price(19));
        due("above: at the third step", 81 + 50 + 3, () -> x.price(20));
        due("above: 200", 81 + 50 + 181 * 3, () -> x.price(200));
    }

    /** "none where a step is missing" */
    private static void priceNone() {
        CoalStreet x = told("above;step 2 9;");
        CoalStreet y = told("step 60 9;");
        CoalStreet z = told("cart 60 9;");
        for (int i = 1; i <= 200; i++) {
            int q = i;
            due("above, the step of 1 missing", -1, () -> x.price(q));
            due("whole, the step of q missing", q < 60 ? -1 : 9 * q, () -> y.price(q));
            due("no step at all, but a cart", -1, () -> z.price(q));
        }
    }

    /** What an earlier TARIFF told of prices is gone. */
    private static void priceOfALaterTariff() {
        String[] texts = {"above;step 1 9;", "", "step 1 9;", "above;", "above;step 2 9;step 3 1;", "above;step 1 7;step 2 1;",
            "step 60 1;", "step 1 9;cart 1 1;"};
        int[][] due = {{9, 18, 540}, {-1, -1, -1}, {9, 18, 540}, {-1, -1, -1}, {-1, -1, -1}, {7, 8, 66}, {-1, -1, 60},
            {10, 20, 600}};
        CoalStreet x = new CoalStreet();
        for (int i = 0; i < texts.length; i++) {
            for (int j = 0; j < texts.length; j++) {
                priced(x, texts[i], due[i]);
                priced(x, texts[j], due[j]);
            }
        }
    }

    private static void priced(CoalStreet x, String text, int[] due) {
        Streets.tell(x, text);
        int[] sacks = {1, 2, 60};
        for (int i = 0; i < 3; i++) {
            int q = sacks[i];
            due("price of " + q + " by " + text, due[i], () -> x.price(q));
        }
    }

    /** "the least cost of CARTS (any number of each) that hold q together or more (0 if no CARTS are told)" */
    private static void priceCarts() {
        CoalStreet x = told("step 1 1;cart 4 10;");
        int[] due = {11, 12, 13, 14, 25, 26, 27, 28, 39};
        for (int i = 1; i <= due.length; i++) {
            int q = i;
            due("one kind of cart for " + q, due[q - 1], () -> x.price(q));
        }
        CoalStreet y = told("step 1 1;cart 5 9;cart 3 5;cart 60 98;");
        due("two small ones for 6", 6 + 10, () -> y.price(6));
        due("a small and a great one for 8", 8 + 14, () -> y.price(8));
        due("three small ones for 9", 9 + 15, () -> y.price(9));
        due("ten sacks: two great ones", 10 + 18, () -> y.price(10));
        due("a cart for 60", 60 + 98, () -> y.price(60));
        due("180 by the greatest ones", 180 + 294, () -> y.price(180));
        CoalStreet z = told("step 1 1;cart 1 0;cart 60 99;");
        due("carts that cost nothing", 200, () -> z.price(200));
        due("without carts", 200, () -> told("step 1 1;").price(200));
    }

    // ---- promise 13: "BUYS of q sacks (0 to 200) in a MONTH; NONE. NoSuchElementException: no such MONTH (0 to 5);
    // IllegalArgumentException: q."

    private static void buysBounds() {
        CoalStreet x = told("step 1 10;rise 5 1;");
        due("buys(0, 0)", 0, () -> x.buys(0, 0));
        due("buys(200, 5)", 2200, () -> x.buys(200, 5));
        for (int q : new int[] {-1, 201, 202, 256, SMALL, BIG}) {
            for (int m = 0; m < 6; m += 5) {
                int month = m;
                Twins.stays("buys(" + q + ", " + m + ")", IAE, y -> y.buys(q, month));
                Twins.stays("buys(" + q + ", " + m + ") of a new one", IAE, CoalStreet::new, y -> y.buys(q, month));
            }
        }
        for (int month : new int[] {-1, 6, 7, SMALL, BIG}) {
            for (int q : new int[] {0, 200, -1, 201}) {
                Twins.stays("buys(" + q + ", " + month + ")", NSE, y -> y.buys(q, month));
            }
        }
    }

    /** "0 for 0" */
    private static void buysOfNone() {
        for (String text : new String[] {"", "step 60 9;", "step 1 9;cart 1 9;rise 0 9;rise 5 9;", "above;step 2 1;"}) {
            for (int m = 0; m < 6; m++) {
                int month = m;
                due("BUYS of 0 by " + text, 0, () -> told(text).buys(0, month));
            }
        }
    }

    /** "the least cost of BUYS of q together, in one or several" */
    private static void buysInSeveral() {
        CoalStreet x = told("step 3 10;step 5 30;step 6 9;");
        int[] due = {-1, -1, 30, 40, -1, 54, 63, 72, 81};
        for (int i = 1; i <= due.length; i++) {
            int q = i;
            int one = q == 5 ? 150 : due[q - 1];
            due("BUYS of " + q, one, () -> x.buys(q, 0));
        }
        CoalStreet y = told("above;step 1 5;step 2 90;");
        due("one by one", 1000, () -> y.buys(200, 0));
        CoalStreet z = told("step 7 10;step 8 99;");
        due("two of 7", 140, () -> z.buys(14, 0));
        due("7 and 8", 70 + 99 * 8, () -> z.buys(15, 0));
        due("20 of 7 are 140", 1400, () -> z.buys(140, 0));
        CoalStreet w = told("step 1 10;cart 2 1;cart 3 9;");
        due("as many as carts hold", 41 + 1, () -> w.buys(4, 0));
    }

    /** "none if it can't be" */
    private static void buysNone() {
        CoalStreet x = told("step 60 1;rise 0 3;");
        for (int i = 1; i <= 200; i++) {
            int q = i;
            due("BUYS of " + q + " from 60 on", q < 60 ? -1 : 4 * q, () -> x.buys(q, 0));
        }
        CoalStreet y = told("above;step 2 1;");
        due("above, the step of 1 missing", -1, () -> y.buys(200, 0));
    }

    /** "and q times that MONTH's rise": also of a MONTH that doesn't count. */
    private static void buysRise() {
        CoalStreet x = told("step 1 10;months 1;rise 0 1;rise 1 2;rise 2 3;rise 3 4;rise 4 5;rise 5 6;");
        for (int m = 0; m < 6; m++) {
            int month = m;
            due("BUYS of 200 in month " + m, 2000 + 200 * (m + 1), () -> x.buys(200, month));
            due("BUYS of 1 in month " + m, 11 + m, () -> x.buys(1, month));
        }
        due("PRICE without rise", 10, () -> x.price(1));
    }
}
