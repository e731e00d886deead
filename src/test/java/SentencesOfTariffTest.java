/**
 * What promises 9 to 13 and the terms of TARIFF, TOKENS, FAULTS, PRICE and BUYS say without naming a boundary, where it
 * could be read otherwise: each with an answer that another reading wouldn't give.
 */
public final class SentencesOfTariffTest {
    private static final String ALL = "above;step 2 9;step 1 12;cart 3 4;gather 2;keep 5;months 4;rise 1 3;late 6;"
            + "rule alone;";

    private SentencesOfTariffTest() {
    }

    public static void main(String[] args) {
        feedAnywhere();
        feedIsNoText();
        textIsReadAsOne();
        linesOfEachSort();
        linesInAnyOrder();
        linesAnyNumberOfTimes();
        linesHaveTheirTokens();
        blanksAnywhere();
        numbersAreDecimal();
        textIsTheTariffFromNowOn();
        textIsJustTheTariff();
        laterStrikesEarlier();
        riseOfItsMonth();
        faultsOfEarlierTextsAreGone();
        faultOfTheLatestText();
        faultAtItsToken();
        priceByTheStepOfAll();
        priceByStepsOneByOne();
        stepsInAnyOrder();
        priceIsOfOneBuy();
        cartsForOneBuy();
        cartsWithEmptyPlaces();
        cartsOfAllKinds();
        buysAreJustThese();
        buysEachWithItsCarts();
        buysByHand();
        monthlyIsEachSack();
        Check.end();
    }

    private static void due(String what, Object want, Check.Call call) {
        Check.due(what, want, call);
    }

    private static CoalStreet told(String text) {
        CoalStreet x = new CoalStreet();
        Check.same("the text " + text + " has no fault", true, Streets.tell(x, text) >= 0);
        return x;
    }

    // ---- promise 9: "Twenty bytes come behind those on the tape, the highest of each int first"

    /** A line that begins at each place, and so goes on from one int, and from one call, to the next one. */
    private static void feedAnywhere() {
        for (int ahead = 0; ahead <= 60; ahead++) {
            CoalStreet x = new CoalStreet();
            Streets.feed(x, " ".repeat(ahead) + "late 987;step 12 34;rule alike;");
            due("lines behind " + ahead + " blanks", 3, () -> x.text(x.count(4)));
            due("late behind " + ahead + " blanks", 987, () -> x.count(7));
            due("a step behind " + ahead + " blanks", 12 * 34, () -> x.price(12));
            due("a rule behind " + ahead + " blanks", 2, () -> x.count(6));
        }
    }

    /** What comes to the tape is no TARIFF before text() says so. */
    private static void feedIsNoText() {
        CoalStreet x = told("step 1 10;late 5;");
        String before = Streets.print(x);
        Streets.feed(x, "step 1 3;late 7;?");
        due("twenty bytes", 20, () -> x.count(4));
        due("the price of before", 10, () -> x.price(1));
        due("late of before", 5, () -> x.count(7));
        due("no FAULT", 0, () -> x.fault(0));
        x.text(0);
        CoalStreet y = told("step 1 10;late 5;");
        Check.same("a new tape changes the count of its bytes alone", before, Streets.print(y));
    }

    // ---- promise 10: "The first n bytes of the tape (which is empty then) are a TARIFF: how many LINES"

    /** What several calls fed is one TEXT; what stands behind its n bytes isn't of it, and is gone. */
    private static void textIsReadAsOne() {
        CoalStreet x = new CoalStreet();
        x.feed(0x6c617465, 0x20202020, 0x20202020, 0x20202020, 0x20202020);
        x.feed(0x20202020, 0x20202020, 0x20202020, 0x20202020, 0x20373838);
        x.feed(0x3b6b6565, 0x70203939, 0x3b3f3f3f, 0x3f3f3f3f, 0x3f3f3f3f);
        due("two lines of three calls", 2, () -> x.text(49));
        due("late", 788, () -> x.count(7));
        due("keep", 99, () -> x.count(9));
        due("no FAULT of what stands behind", 0, () -> x.fault(0));
        Streets.feed(x, "late 1;");
        due("what stood behind is gone", 1, () -> x.text(20));
        due("late", 1, () -> x.count(7));
    }

    /** "LINE: whole | above | step N N | cart N N | gather N | keep N | months N | rise N N | late N | rule RULE." */
    private static void linesOfEachSort() {
        for (String line : "whole above gather#5 keep#5 months#5 late#5 step#5#6 cart#5#6 rise#5#6 rule#parts".split(" ")) {
            String text = line.replace('#', ' ') + ";";
            due("a line " + text, 1, () -> Streets.tell(new CoalStreet(), text));
            due("two lines " + text, text.startsWith("step") ? -14 : 2, () -> Streets.tell(new CoalStreet(), text + text));
        }
        due("months", 5, () -> told("months 5;").count(3));
        due("late", 5, () -> told("late 5;").count(7));
        due("gather", 5, () -> told("gather 5;").count(8));
        due("keep", 5, () -> told("keep 5;").count(9));
        due("from 5 on", -1, () -> told("step 5 6;").price(4));
        due("6 coins each", 30, () -> told("step 5 6;").price(5));
        due("a cart holds 5", 11, () -> told("step 1 1;cart 5 6;").price(5));
        due("and costs 6", 18, () -> told("step 1 1;cart 5 6;").price(6));
        due("in month 5", 1, () -> told("step 1 1;rise 5 6;").buys(1, 4));
        due("6 coins more", 7, () -> told("step 1 1;rise 5 6;").buys(1, 5));
    }

    private static String answers(CoalStreet x) {
        StringBuilder all = new StringBuilder();
        for (int i = 0; i < 10; i++) {
            all.append(x.count(i)).append(' ');
        }
        for (int q = 1; q <= 70; q++) {
            all.append(x.price(q)).append(' ');
            for (int m = 0; m < 6; m++) {
                all.append(x.buys(q, m)).append(' ');
            }
        }
        return all.toString();
    }

    /** Each line may be the first one, or the last one: what it tells is the same. */
    private static void linesInAnyOrder() {
        String[] lines = ALL.split("(?<=;)");
        String due = answers(told(ALL));
        for (int first = 0; first < lines.length; first++) {
            StringBuilder on = new StringBuilder();
            StringBuilder back = new StringBuilder();
            for (int i = 0; i < lines.length; i++) {
                on.append(lines[(first + i) % lines.length]);
                back.append(lines[(first - i + lines.length) % lines.length]);
            }
            Check.same("from " + lines[first] + " on", due, answers(told(on.toString())));
            Check.same("from " + lines[first] + " back", due, answers(told(back.toString())));
        }
    }

    private static void linesAnyNumberOfTimes() {
        String[] lines = "whole;above;gather 3;keep 3;months 3;rise 3 3;late 3;rule alone;cart 3 3;".split("(?<=;)");
        for (String line : lines) {
            int most = line.startsWith("cart") ? 4 : 20;
            for (int times = 1; times <= most; times++) {
                String text = line.repeat(times);
                due(times + " times " + line, times, () -> Streets.tell(new CoalStreet(), text));
            }
            String once = answers(told(line));
            if (!line.startsWith("cart")) {
                Check.same(line + " again and again", once, answers(told(line.repeat(20))));
            }
        }
    }

    /** What may stand behind a line's tokens: each of them with each sort of token behind it. */
    private static void linesHaveTheirTokens() {
        String[] tokens = {"5", ";", "late", "parts", "whole", "q"};
        for (String line : "whole above gather#5 keep#5 months#5 late#5 step#5#6 cart#5#6 rise#5#6 rule#alone".split(" ")) {
            String[] own = (line + "#;").split("#");
            String ahead = "";
            for (int i = 0; i < own.length; i++) {
                for (String token : tokens) {
                    String text = ahead + token;
                    boolean may = i == 0 ? token.equals("late") || token.equals("whole")
                            : own[i].equals(";") ? token.equals(";")
                            : own[i].equals("alone") ? token.equals("parts") : token.equals("5");
                    int end = may ? text.length() : ahead.length();
                    boolean whole = may && token.equals(";");
                    CoalStreet x = new CoalStreet();
                    due(text, whole ? 1 : -12, () -> Streets.tell(x, text));
                    due("the FAULT's place in " + text, whole ? -1 : end, () -> x.fault(1));
                }
                ahead += own[i] + " ";
            }
        }
    }

    /** "TOKENS, as long as they go, between them blanks (10, 32)": how many, and which, is no matter. */
    private static void blanksAnywhere() {
        String[] tokens = "above ; step 2 9 ; step 1 12 ; cart 3 4 ; rise 1 3 ; rule alone ;".split(" ");
        String due = answers(told(String.join(" ", tokens)));
        for (String blank : new String[] {"\n", "  ", " \n", "\n ", "\n\n\n", "   \n  "}) {
            Check.same("other blanks", due, answers(told(String.join(blank, tokens))));
            Check.same("blanks ahead and behind", due,
                    answers(told(blank + String.join(" ", tokens) + blank)));
        }
        Check.same("no blank but between words, and between numbers", due,
                answers(told("above;step2 9;step1 12;cart3 4;rise1 3;rule alone;")));
        due("a blank parts a word", -12, () -> Streets.tell(new CoalStreet(), "ab ove;"));
        due("a blank parts a number", -12, () -> Streets.tell(new CoalStreet(), "late 1 2;"));
        due("two words are one without a blank", -12, () -> Streets.tell(new CoalStreet(), "rulealone;"));
        due("two numbers are one without a blank", -12, () -> Streets.tell(new CoalStreet(), "step 12;"));
    }

    private static void numbersAreDecimal() {
        for (int n = 0; n <= 999; n++) {
            int late = n;
            due("late " + n, n, () -> told("late " + late + ";").count(7));
        }
        for (String zeros : new String[] {"8", "08", "008"}) {
            due("late " + zeros, 8, () -> told("late " + zeros + ";").count(7));
            due("step " + zeros, 24, () -> told("step " + zeros + " 3;").price(8));
            due("step " + zeros, -1, () -> told("step " + zeros + " 3;").price(7));
        }
    }

    // ---- "A TEXT without a FAULT is the TARIFF from now on."

    private static void textIsTheTariffFromNowOn() {
        CoalStreet x = told("step 1 10;late 5;");
        for (int round = 0; round < 3; round++) {
            x.house(3);
            x.want(0, 0, 4);
            x.cellar(0, 2);
            x.doubt(0, 1, 1);
            x.seller(1, 7, 2, 2);
            x.before(1);
            x.tray(0, 0, 2);
            x.take(0, 0);
            x.image(0);
            Streets.feed(x, "step 1 3;");
            due("the price", 10, () -> x.price(1));
            due("late", 5, () -> x.count(7));
        }
        x.text(20);
        due("a new price", 3, () -> x.price(1));
        due("without late", 0, () -> x.count(7));
    }

    /** It tells nothing of households, pays, doubts, trays or images. */
    private static void textIsJustTheTariff() {
        CoalStreet x = Twins.rich();
        CoalStreet y = Twins.rich();
        for (String text : new String[] {ALL, "", "months 6;rule alike;"}) {
            Streets.tell(x, text);
            due("households", 5, () -> x.count(0));
            due("doubts", 4, () -> x.count(5));
            due("D", 3, () -> x.by(3));
            for (int h = 0; h < 5; h++) {
                int house = h;
                due("pay of " + h, y.pay(h, 0), () -> x.pay(house, 0));
                due("cellar of " + h, y.cellar(h, 0), () -> x.cellar(house, 0));
                for (int m = 0; m < 6; m++) {
                    int month = m;
                    due("want of " + h, y.want(h, m, 0), () -> x.want(house, month, 0));
                }
            }
        }
        due("a tray", 3, () -> x.take(0, 0));
        due("its numbers", 2, () -> x.want(0, 1, 0));
        x.restore(0);
        due("an image", 1, () -> x.count(6));
    }

    // ---- "Later LINES of one sort strike (rise: of that MONTH); steps and CARTS are all told."

    /** The last one counts: not the first, not the greatest, not the least, not all together. */
    private static void laterStrikesEarlier() {
        int[][] rows = {{3, 1, 2}, {1, 3, 2}, {2, 3, 1}, {3, 2, 1}, {1, 2, 3}, {2, 1, 3}};
        String[] words = {"months", "late", "gather", "keep"};
        int[] counts = {3, 7, 8, 9};
        for (int[] row : rows) {
            for (int i = 0; i < words.length; i++) {
                StringBuilder text = new StringBuilder();
                for (int n : row) {
                    text.append(words[i]).append(' ').append(n).append(";whole;");
                }
                int what = counts[i];
                due("the last of " + text, row[2], () -> told(text.toString()).count(what));
            }
            String[] rules = {"parts", "alone", "alike"};
            StringBuilder text = new StringBuilder();
            StringBuilder rise = new StringBuilder("step 1 1;");
            for (int n : row) {
                text.append("rule ").append(rules[n - 1]).append(';');
                rise.append("rise 4 ").append(n).append(";");
            }
            due("the last of " + text, row[2] - 1, () -> told(text.toString()).count(6));
            due("the last of " + rise, row[2] + 1, () -> told(rise.toString()).buys(1, 4));
        }
    }

    private static void riseOfItsMonth() {
        for (int one = 0; one < 6; one++) {
            for (int other = 0; other < 6; other++) {
                CoalStreet x = told("step 1 10;rise " + one + " 7;rise " + other + " 2;");
                for (int m = 0; m < 6; m++) {
                    int month = m;
                    due("rise of " + m + " behind " + one + " and " + other, m == other ? 12 : m == one ? 17 : 10,
                            () -> x.buys(1, month));
                }
            }
        }
    }

    // ---- "FAULTS, the first along the text" and promise 11: "Of the latest text() that threw nothing"

    /** What an earlier text told up to its FAULT is no matter for the next one. */
    private static void faultsOfEarlierTextsAreGone() {
        CoalStreet x = new CoalStreet();
        String[] texts = {"step 5 1;step 6 1;step 6 1;", "cart 1 1;cart 1 1;cart 1 1;cart 1 1;cart", "late 5;late 6",
            "rule", "rise 3 9;rise 9 3;", "above;?"};
        for (int round = 0; round < 3; round++) {
            for (String text : texts) {
                Check.same("a FAULT", true, Streets.tell(x, text) < -10);
                due("a text without", 5, () -> Streets.tell(x, "step 5 2;step 6 1;cart 1 0;cart 1 1;rise 3 1;"));
                due("no FAULT", 0, () -> x.fault(0));
                due("no place", -1, () -> x.fault(1));
                due("two steps", 2, () -> x.count(1));
                due("two carts", 2, () -> x.count(2));
                due("late isn't told", 0, () -> x.count(7));
                due("whole", 6, () -> x.price(6));
                due("rise", 24, () -> x.buys(12, 3));
            }
        }
    }

    /** No other call tells a FAULT, or takes it away. */
    private static void faultOfTheLatestText() {
        CoalStreet x = Streets.trusting(1, 2);
        Streets.tell(x, "step 1 9;rule alike;step 1 9;");
        x.image(0);
        x.house(3);
        x.want(0, 0, 1);
        x.feed(0x3f3f3f3f, 0, 0, 0, 0);
        x.seller(3, 5, 1, 2);
        x.restore(0);
        x.risk(3, 0);
        due("house that throws", Twins.IAE, () -> x.house(9));
        due("text that throws", Twins.IAE, () -> x.text(21));
        due("the FAULT", 4, () -> x.fault(0));
        due("its place", 25, () -> x.fault(1));
        due("the next one", -11, () -> x.text(20));
        due("its FAULT", 1, () -> x.fault(0));
        due("its place", 0, () -> x.fault(1));
    }

    /** The place is that of the token's first sign, wherever the line began. */
    private static void faultAtItsToken() {
        String[] heads = {"", "whole;", "  late  5 ;\n"};
        for (String head : heads) {
            for (String b : new String[] {" ", "\n", "    "}) {
                place(head + b, 2, "parts", ";");
                place(head + "step" + b, 3, "0", " 5;");
                place(head + "step 7" + b, 3, "100", ";");
                place(head + "step 7" + b, 1, "1000", ";");
                place(head + "step 7 8;step" + b, 4, "7", " 8;");
                place(head + "rule" + b, 2, "likes", ";");
                place(head + "keep 9" + b, 2, "9", ";");
                place(head + "keep 9" + b, 1, "#9", ";");
            }
        }
    }

    private static void place(String ahead, int kind, String token, String behind) {
        CoalStreet x = new CoalStreet();
        due(ahead + token, -10 - kind, () -> Streets.tell(x, ahead + token + behind));
        due("the place in " + ahead + token, ahead.length(), () -> x.fault(1));
    }

    // ---- PRICE: "the step of n being the one with the greatest a that isn't above n: whole: q times p of the step of q;
    // above: p of the step of 1, of 2, .. of q together"

    /** By whole all sacks are as dear as the last one, so that more can cost less. */
    private static void priceByTheStepOfAll() {
        CoalStreet x = told("step 1 9;step 4 5;step 6 8;");
        int[] due = {9, 18, 27, 20, 25, 48, 56};
        for (int q = 1; q <= due.length; q++) {
            int sacks = q;
            due("whole: price of " + q, due[q - 1], () -> x.price(sacks));
        }
    }

    private static void priceByStepsOneByOne() {
        CoalStreet x = told("above;step 1 9;step 4 5;step 6 8;");
        int[] due = {9, 18, 27, 32, 37, 45, 53};
        for (int q = 1; q <= due.length; q++) {
            int sacks = q;
            due("above: price of " + q, due[q - 1], () -> x.price(sacks));
        }
    }

    /** The step with the greatest a, not the one that was told last, nor the dearest or the cheapest one. */
    private static void stepsInAnyOrder() {
        int[][] orders = {{0, 1, 2}, {0, 2, 1}, {1, 0, 2}, {1, 2, 0}, {2, 0, 1}, {2, 1, 0}};
        String[] lines = {"step 1 5;", "step 3 9;", "step 5 7;"};
        for (String sort : new String[] {"whole;", "above;"}) {
            for (int[] order : orders) {
                CoalStreet x = told(lines[order[0]] + lines[order[1]] + sort + lines[order[2]]);
                int[] due = sort.equals("whole;") ? new int[] {5, 10, 27, 36, 35, 42} : new int[] {5, 10, 19, 28, 35, 42};
                for (int q = 1; q <= due.length; q++) {
                    int sacks = q;
                    due(sort + " price of " + q, due[q - 1], () -> x.price(sacks));
                }
            }
        }
    }

    /** "PRICE of one BUY": though several would cost less. */
    private static void priceIsOfOneBuy() {
        CoalStreet x = told("step 1 2;step 3 9;");
        due("one buy of 3", 27, () -> x.price(3));
        due("several of 3", 6, () -> x.buys(3, 0));
        due("one buy of 4", 36, () -> x.price(4));
        CoalStreet y = told("step 2 5;");
        due("no buy of 1", -1, () -> y.price(1));
        due("one buy of 2", 10, () -> y.price(2));
        CoalStreet z = told("step 1 5;rise 0 9;rise 3 4;");
        due("rise aside", 10, () -> z.price(2));
    }

    // ---- "To that comes the least cost of CARTS (any number of each) that hold q together or more"

    private static void cartsForOneBuy() {
        CoalStreet x = told("above;step 1 1;step 4 2;cart 5 7;");
        int[] due = {8, 9, 10, 12, 14, 23, 25, 27, 29, 31, 40};
        for (int q = 1; q <= due.length; q++) {
            int sacks = q;
            due("one cart, two, three: " + q, due[q - 1], () -> x.price(sacks));
        }
    }

    /** "or more": a cart that is too great may cost less than those that are full. */
    private static void cartsWithEmptyPlaces() {
        CoalStreet x = told("step 1 1;cart 1 3;cart 10 5;");
        due("a small one for 1", 1 + 3, () -> x.price(1));
        due("a great one for 2", 2 + 5, () -> x.price(2));
        due("a great one for 10", 10 + 5, () -> x.price(10));
        due("both for 11", 11 + 8, () -> x.price(11));
        due("two great ones for 12", 12 + 10, () -> x.price(12));
        CoalStreet y = told("step 1 1;cart 2 9;cart 50 1;");
        due("the great one is cheaper", 2, () -> y.price(1));
        due("it is always", 101 + 3, () -> y.price(101));
    }

    private static void cartsOfAllKinds() {
        CoalStreet x = told("step 1 1;cart 7 10;cart 4 6;cart 3 5;cart 4 6;");
        // 3 5, 4 6, 7 10 (not 11), 8 12, 10 15, 11 16, 12 18, 14 20, 15 22.
        int[] carts = {5, 5, 5, 6, 10, 10, 10, 12, 15, 15, 16, 18, 20, 20, 22};
        for (int q = 1; q <= carts.length; q++) {
            int sacks = q;
            due("carts for " + q, q + carts[q - 1], () -> x.price(sacks));
        }
    }

    // ---- "BUYS of q in a MONTH: the least cost of BUYS of q together, in one or several, and q times that MONTH's rise"

    /** Just q: not more, though more would cost less. */
    private static void buysAreJustThese() {
        CoalStreet x = told("step 1 10;step 4 1;");
        due("3 cost more than 4", 30, () -> x.buys(3, 0));
        due("4", 4, () -> x.buys(4, 0));
        due("3 and 4 in one", 7, () -> x.buys(7, 0));
        CoalStreet y = told("step 4 1;");
        due("3 can't be", -1, () -> y.buys(3, 0));
    }

    private static void buysEachWithItsCarts() {
        CoalStreet x = told("step 1 3;step 4 9;cart 6 5;");
        // One by one: 27 and 9 carts; by threes: 9 and 5 each.
        due("9 by threes", 3 * 14, () -> x.buys(9, 0));
        due("4 by two and two", 2 * (6 + 5), () -> x.buys(4, 0));
        due("4 in one", 36 + 5, () -> x.price(4));
        CoalStreet y = told("step 1 10;step 5 8;cart 4 7;");
        // 5 in one: 40 and two carts 14.
        due("5 in one", 54, () -> y.buys(5, 0));
        due("8 in one", 64 + 14, () -> y.buys(8, 0));
        due("9 in one", 72 + 21, () -> y.buys(9, 0));
    }

    /** Three BUYS that are not alike. */
    private static void buysByHand() {
        CoalStreet x = told("step 2 9;step 3 4;step 5 6;step 7 3;step 8 9;");
        // One buy: 2 18, 3 12, 4 16, 5 30, 6 36, 7 21. Several: 5 2 + 3, 6 3 + 3, 8 4 + 4, 9 3 + 3 + 3, 10 3 + 7,
        // 11 4 + 7, 12 4 + 4 + 4, 13 3 + 3 + 7, 14 7 + 7, 15 4 + 4 + 7.
        int[] due = {-1, 18, 12, 16, 30, 24, 21, 32, 36, 33, 37, 48, 45, 42, 53};
        for (int q = 1; q <= due.length; q++) {
            int sacks = q;
            due("buys of " + q, due[q - 1], () -> x.buys(sacks, 0));
        }
    }

    /** The rise is for each sack, in however many BUYS, and PRICES and CARTS are as they are. */
    private static void monthlyIsEachSack() {
        CoalStreet x = told("step 1 2;step 3 9;cart 1 1;rise 2 10;");
        for (int q = 0; q <= 20; q++) {
            int sacks = q;
            due("3 each in month 1: " + q, 3 * q, () -> x.buys(sacks, 1));
            due("13 each in month 2: " + q, 13 * q, () -> x.buys(sacks, 2));
        }
        CoalStreet y = told("step 5 2;rise 2 10;");
        due("a rise makes nothing that can't be", -1, () -> y.buys(4, 2));
    }
}
