/** Each promise by hand: ordinary inputs, the edges that the document names, and wrong inputs. */
public final class PromisesTest {
    private static final String NSE = "throws NoSuchElementException";
    private static final String IAE = "throws IllegalArgumentException";
    private static final String ISE = "throws IllegalStateException";
    private static final String OUT = "throws IndexOutOfBoundsException";
    private static final String NOTHING = "nothing";
    private static final int BIG = Integer.MAX_VALUE;
    private static final int SMALL = Integer.MIN_VALUE;

    private PromisesTest() {
    }

    public static void main(String[] args) {
        newObject();
        houses();
        wants();
        cellars();
        bars();
        trusts();
        holders();
        chains();
        feeds();
        texts();
        textFaults();
        faults();
        prices();
        buys();
        costs();
        bought();
        leasts();
        groups();
        firstRows();
        comes();
        joins();
        fractions();
        pays();
        bys();
        judges();
        cans();
        shares();
        rows();
        proofs();
        ruled();
        keeps();
        doubts();
        risks();
        befores();
        sellers();
        trays();
        writes();
        takes();
        images();
        imagesOfDoubts();
        restores();
        counts();
        Check.end();
    }

    private static void due(String what, Object want, Check.Call call) {
        Check.due(what, want, call);
    }

    /** The call throws so, and all is as it was. */
    private static void refused(CoalStreet x, String what, String want, Check.Call call) {
        String was = Streets.print(x);
        Check.due(what, want, call);
        Check.same(what + ": all as it was", was, Streets.print(x));
    }

    private static Check.Call act(Runnable run) {
        return () -> {
            run.run();
            return null;
        };
    }

    private static void fraction(CoalStreet x, String what, long upper, long lower) {
        Check.same(what + " as a fraction", upper + "/" + lower, x.upper() + "/" + x.lower());
    }

    private static void newObject() {
        CoalStreet x = new CoalStreet();
        int[] counts = {0, 0, 0, 1, 0, 0, 0, 0, 0, 0};
        for (int i = 0; i < counts.length; i++) {
            int what = i;
            due("new count(" + i + ")", counts[i], () -> x.count(what));
        }
        due("NONE", -1, () -> CoalStreet.NONE);
        fraction(x, "new", 0, 0);
        due("new fault(0)", 0, () -> x.fault(0));
        due("new fault(1)", -1, () -> x.fault(1));
        due("new price(1)", -1, () -> x.price(1));
        due("new by(3)", 1, () -> x.by(3));
        for (int i = 0; i < 4; i++) {
            int tray = i;
            due("new write", ISE, () -> x.write(tray, 0, 1));
        }
        for (int i = 0; i < 3; i++) {
            int image = i;
            due("new restore", ISE, act(() -> x.restore(image)));
        }
        due("new holder(1)", IAE, () -> x.holder(1));
    }

    private static void houses() {
        CoalStreet x = new CoalStreet();
        due("house(0)", 0, () -> x.house(0));
        due("house(8)", 1, () -> x.house(8));
        refused(x, "house(9)", IAE, () -> x.house(9));
        refused(x, "house(-1)", IAE, () -> x.house(-1));
        refused(x, "house(BIG)", IAE, () -> x.house(BIG));
        refused(x, "house(SMALL)", IAE, () -> x.house(SMALL));
        for (int i = 2; i < 7; i++) {
            due("house(3)", i, () -> x.house(3));
        }
        due("eighth house", -1, () -> x.house(3));
        due("eighth house with a wrong cellar", IAE, () -> x.house(9));
        due("count(0)", 7, () -> x.count(0));
        due("cellar of 0", 0, () -> x.cellar(0, 0));
        due("cellar of 1", 8, () -> x.cellar(1, 8));
        due("cellar of 6", 3, () -> x.cellar(6, 3));
        due("want of 6", 0, () -> x.want(6, 5, 0));
        due("pay of 6", 0, () -> x.pay(6, 0));
        due("trust of 6", 0, () -> x.trust(6, 0, false));
    }

    private static void wants() {
        CoalStreet x = new CoalStreet();
        x.house(0);
        x.house(0);
        due("want", 0, () -> x.want(1, 5, 8));
        due("want was", 8, () -> x.want(1, 5, 3));
        due("want of another month", 0, () -> x.want(1, 0, 2));
        due("want of another one", 0, () -> x.want(0, 5, 0));
        due("want was 3", 3, () -> x.want(1, 5, 3));
        refused(x, "want(2, ..)", NSE, () -> x.want(2, 0, 1));
        refused(x, "want(-1, ..)", NSE, () -> x.want(-1, 0, 1));
        refused(x, "want(7, ..)", NSE, () -> x.want(7, 0, 1));
        refused(x, "want(BIG, ..)", NSE, () -> x.want(BIG, 0, 9));
        refused(x, "want month 6", NSE, () -> x.want(0, 6, 1));
        refused(x, "want month -1", NSE, () -> x.want(0, -1, 1));
        refused(x, "want month 6 and 9 sacks", NSE, () -> x.want(0, 6, 9));
        refused(x, "want 9", IAE, () -> x.want(0, 0, 9));
        refused(x, "want -1", IAE, () -> x.want(0, 0, -1));
        // A want that changes changes costs that were asked for before.
        Streets.tell(x, "step 1 10;");
        due("cost", 20, () -> x.cost(2));
        x.want(1, 0, 5);
        due("cost of more", 50, () -> x.cost(2));
        due("total of more", 50, () -> x.least(3));
    }

    private static void cellars() {
        CoalStreet x = new CoalStreet();
        x.house(4);
        due("cellar", 4, () -> x.cellar(0, 8));
        due("cellar was", 8, () -> x.cellar(0, 0));
        refused(x, "cellar(1, ..)", NSE, () -> x.cellar(1, 2));
        refused(x, "cellar(-1, ..)", NSE, () -> x.cellar(-1, 9));
        refused(x, "cellar 9", IAE, () -> x.cellar(0, 9));
        refused(x, "cellar -1", IAE, () -> x.cellar(0, -1));
        x.want(0, 1, 2);
        Streets.tell(x, "step 1 10;months 2;rise 1 5;");
        due("without a cellar", 30, () -> x.cost(1));
        x.cellar(0, 1);
        due("with one for one", 25, () -> x.cost(1));
        x.cellar(0, 2);
        due("with one for two", 20, () -> x.cost(1));
    }

    private static void bars() {
        CoalStreet x = Streets.trusting(1, 1, 1);
        Streets.tell(x, "step 1 10;");
        due("cost together", 20, () -> x.cost(3));
        due("bar", 1, () -> x.bar(1, 0));
        due("bar again", 0, () -> x.bar(1, 0));
        due("bar the other way", 0, () -> x.bar(0, 1));
        due("barred", -1, () -> x.cost(3));
        due("barred in more", -1, () -> x.cost(7));
        due("not barred", 20, () -> x.cost(5));
        due("nor they", 20, () -> x.cost(6));
        due("alone", 10, () -> x.cost(1));
        refused(x, "bar one", IAE, () -> x.bar(1, 1));
        refused(x, "bar nobody", NSE, () -> x.bar(0, 3));
        refused(x, "bar nobody", NSE, () -> x.bar(3, 0));
        refused(x, "bar nobody from nobody", NSE, () -> x.bar(-1, -1));
    }

    private static void trusts() {
        CoalStreet x = new CoalStreet();
        x.house(0);
        x.house(0);
        due("trust", 0, () -> x.trust(0, 1, true));
        due("trust again", 1, () -> x.trust(0, 1, true));
        due("not the other way", 0, () -> x.trust(1, 0, false));
        due("no more", 1, () -> x.trust(0, 1, false));
        due("no more", 0, () -> x.trust(0, 1, false));
        refused(x, "trust oneself", IAE, () -> x.trust(0, 0, true));
        refused(x, "trust nobody", NSE, () -> x.trust(0, 2, true));
        refused(x, "nobody trusts", NSE, () -> x.trust(2, 0, true));
        refused(x, "nobody trusts nobody", NSE, () -> x.trust(7, 7, true));
        Streets.tell(x, "step 1 10;");
        due("no holder", -1, () -> x.cost(3));
        x.trust(0, 1, true);
        due("a holder", 0, () -> x.cost(3));
        x.trust(0, 1, false);
        due("no holder again", -1, () -> x.cost(3));
    }

    private static void holders() {
        CoalStreet x = new CoalStreet();
        for (int i = 0; i < 4; i++) {
            x.house(0);
        }
        due("holder of one", 2, () -> x.holder(4));
        due("no holder", -1, () -> x.holder(3));
        x.trust(0, 2, true);
        x.trust(1, 2, true);
        due("holder of three", 2, () -> x.holder(7));
        due("not of four", -1, () -> x.holder(15));
        x.trust(2, 1, true);
        due("two could be: not by all", 2, () -> x.holder(7));
        x.trust(0, 1, true);
        due("the least of them", 1, () -> x.holder(7));
        due("one that isn't of the set doesn't hold", -1, () -> x.holder(9));
        refused(x, "holder(0)", IAE, () -> x.holder(0));
        refused(x, "holder(16)", IAE, () -> x.holder(16));
        refused(x, "holder(-1)", IAE, () -> x.holder(-1));
        refused(x, "holder(SMALL)", IAE, () -> x.holder(SMALL));
        refused(x, "holder(128)", IAE, () -> x.holder(128));
    }

    private static void chains() {
        CoalStreet x = new CoalStreet();
        for (int i = 0; i < 7; i++) {
            x.house(0);
        }
        for (int i = 0; i < 6; i++) {
            x.trust(i, i + 1, true);
        }
        due("chain to itself", 0, () -> x.chain(3, 3));
        due("chain of 1", 1, () -> x.chain(0, 1));
        due("chain of 6", 6, () -> x.chain(0, 6));
        due("no chain back", -1, () -> x.chain(6, 0));
        x.trust(1, 5, true);
        due("a shorter one", 3, () -> x.chain(0, 6));
        x.trust(6, 2, true);
        due("round", 2, () -> x.chain(6, 3));
        due("not round", -1, () -> x.chain(6, 1));
        refused(x, "chain(7, 0)", NSE, () -> x.chain(7, 0));
        refused(x, "chain(0, 7)", NSE, () -> x.chain(0, 7));
        refused(x, "chain(-1, -1)", NSE, () -> x.chain(-1, -1));
    }

    private static void feeds() {
        CoalStreet x = new CoalStreet();
        due("feed", 20, () -> x.feed(0x73746570, 0x20352039, 0x3b202020, 0x20202020, 0x20202020));
        due("count(4)", 20, () -> x.count(4));
        due("highest byte first", 1, () -> x.text(20));
        due("price", 45, () -> x.price(5));
        for (int i = 1; i <= 15; i++) {
            due("feed", 20 * i, () -> x.feed(0x20202020, 0x20202020, 0x20202020, 0x20202020, 0x20202020));
        }
        due("more than 300", -1, () -> x.feed(-1, -1, -1, -1, -1));
        due("nothing changes", 300, () -> x.count(4));
        due("300 blanks", 0, () -> x.text(300));
        due("empty then", 0, () -> x.count(4));
        due("in their order", 20, () -> x.feed(0x77686f6c, 0x653b6162, 0x6f76653b, 0x6c617465, 0x20393b3b));
        due("in their order", 3, () -> x.text(19));
        due("late 9", 9, () -> x.count(7));
    }

    private static void texts() {
        CoalStreet x = new CoalStreet();
        due("empty", 0, () -> x.text(0));
        refused(x, "text(1) of none", IAE, () -> x.text(1));
        Streets.feed(x, "step 1 10;step 5 8;XX");
        refused(x, "text(-1)", IAE, () -> x.text(-1));
        refused(x, "text(41)", IAE, () -> x.text(41));
        due("the tape stays", 40, () -> x.count(4));
        due("the first bytes", 2, () -> x.text(19));
        due("the tape is empty", 0, () -> x.count(4));
        due("a fault", -12, () -> Streets.tell(x, "step 1 1"));
        due("the tape is empty then, too", 0, () -> x.count(4));
        due("the tariff stays", 40, () -> x.price(5));
        due("all lines", 11, () -> Streets.tell(x,
                "above;step 60 99;cart 60 99;gather 99;keep 99;months 6;rise 5 99;late 999;rule alike;whole;above;"));
        due("gather", 99, () -> x.count(8));
        due("keep", 99, () -> x.count(9));
        due("months", 6, () -> x.count(3));
        due("late", 999, () -> x.count(7));
        due("rule", 2, () -> x.count(6));
        due("the least of all", 7, () -> Streets.tell(x,
                "step 1 1;cart 1 0;gather 0;keep 000;months 1;rise 0 0;late 0;"));
        due("rule as at first", 0, () -> x.count(6));
        due("price of the least", 1, () -> x.price(1));
        due("later lines strike", 8, () -> Streets.tell(x,
                "gather 5;gather 6;keep 1;keep 2;rule alone;rule parts;rule alone;late 5;"));
        due("gather", 6, () -> x.count(8));
        due("keep", 2, () -> x.count(9));
        due("alone", 1, () -> x.count(6));
        due("no steps", 0, () -> x.count(1));
        due("no carts", 0, () -> x.count(2));
        due("rises of their months", 4, () -> Streets.tell(x, "step 1 10;rise 0 1;rise 1 2;rise 0 3;"));
        due("rise 0", 13, () -> x.buys(1, 0));
        due("rise 1", 12, () -> x.buys(1, 1));
        due("rise 2", 10, () -> x.buys(1, 2));
        due("whole strikes above", 4, () -> Streets.tell(x, "above;step 1 10;step 2 5;whole;"));
        due("whole", 10, () -> x.price(2));
        due("above strikes whole", 4, () -> Streets.tell(x, "whole;step 1 10;step 2 5;above;"));
        due("above", 15, () -> x.price(2));
        due("above is gone", 2, () -> Streets.tell(x, "step 1 10;step 2 5;"));
        due("above is gone", 10, () -> x.price(2));
        due("an empty text is a tariff", 0, () -> Streets.tell(x, "          "));
        due("without steps", -1, () -> x.price(2));
        due("tokens without blanks", 2, () -> Streets.tell(x, "step1 10;step\n2\n\n 5 ; \n"));
        due("six steps and four carts", 10, () -> Streets.tell(x, "step 1 9;step 2 9;step 3 9;step 4 9;step 5 9;"
                + "step 60 1;cart 1 1;cart 1 2;cart 1 3;cart 1 0;"));
        due("six steps", 6, () -> x.count(1));
        due("four carts", 4, () -> x.count(2));
        String longest = "step 1 7;" + " ".repeat(282) + "late 77; ";
        due("300 bytes", 2, () -> Streets.tell(x, longest));
        due("late 77", 77, () -> x.count(7));
    }

    private static void textFault(String text, int kind, int place) {
        CoalStreet x = new CoalStreet();
        Streets.tell(x, "step 1 3;gather 4;");
        due("text " + text, -10 - kind, () -> Streets.tell(x, text));
        due("fault of " + text, kind, () -> x.fault(0));
        due("place in " + text, place, () -> x.fault(1));
        due("the tariff stays behind " + text, 4, () -> x.count(8));
        due("the tariff stays behind " + text, 3, () -> x.price(1));
    }

    private static void textFaults() {
        textFault("Whole;", 1, 0);
        textFault("whole,", 1, 5);
        textFault("whole;\t", 1, 6);
        textFault("whole;\r\n", 1, 6);
        textFault("whole;\u00e9", 1, 6);
        textFault("whole;\u00ff", 1, 6);
        textFault("whole;\0", 1, 6);
        textFault("whole;{", 1, 6);
        textFault("whole;`", 1, 6);
        textFault("late 1/", 1, 6);
        textFault("late 1:", 1, 6);
        textFault("step 1234 5;", 1, 5);
        textFault("1234", 1, 0);
        textFault("whole 00001;", 1, 6);
        textFault("late -1;", 1, 5);
        textFault("whole", 2, 5);
        textFault("whole   ", 2, 8);
        textFault("step", 2, 4);
        textFault("step 1", 2, 6);
        textFault("step 1 2", 2, 8);
        textFault("step 1 2 ", 2, 9);
        textFault("step 1 2 3;", 2, 9);
        textFault("step ;", 2, 5);
        textFault("step 1;", 2, 6);
        textFault("step 1 x", 2, 7);
        textFault(";", 2, 0);
        textFault(" whole;;", 2, 7);
        textFault("whole above;", 2, 6);
        textFault("wholeabove;", 2, 0);
        textFault("wholes;", 2, 0);
        textFault("whol;", 2, 0);
        textFault("5;", 2, 0);
        textFault("z;", 2, 0);
        textFault("a;", 2, 0);
        textFault("azaz?", 2, 0);
        textFault("rule alonez;", 2, 5);
        wordsMisspelt();
        textFault("parts;", 2, 0);
        textFault("rule;", 2, 4);
        textFault("rule 5;", 2, 5);
        textFault("rule 5555;", 1, 5);
        textFault("rule whole;", 2, 5);
        textFault("rule", 2, 4);
        textFault("rule part;", 2, 5);
        textFault("rule parts alone;", 2, 11);
        textFault("whole step 1 1;", 2, 6);
        textFault("step 0 9;", 3, 5);
        textFault("step 61 9;", 3, 5);
        textFault("step 1 0;", 3, 7);
        textFault("step 1 100;", 3, 7);
        textFault("cart 0 9;", 3, 5);
        textFault("cart 61 9;", 3, 5);
        textFault("cart 1 100;", 3, 7);
        textFault("gather 100;", 3, 7);
        textFault("keep 100;", 3, 5);
        textFault("months 0;", 3, 7);
        textFault("months 7;", 3, 7);
        textFault("rise 6 1;", 3, 5);
        textFault("rise 1 100;", 3, 7);
        textFault("step 0 Q", 3, 5);
        textFault("step 5 9;step 5 6;", 4, 14);
        textFault("step 5 9;step 005 1000;", 4, 14);
        textFault("step 5 9;step 4 1;step 5", 4, 23);
        String six = "step 1 9;step 2 9;step 3 9;step 4 9;step 5 9;step 6 9;";
        textFault(six + "step 7 9;", 4, six.length());
        textFault(six + " step", 4, six.length() + 1);
        textFault(six + "whole step", 2, six.length() + 6);
        String four = "cart 1 1;cart 1 1;cart 2 1;cart 3 1;";
        textFault(four + "cart 1 1;", 4, four.length());
        textFault(four + "carts", 2, four.length());
        textFault(six + four + "cart", 4, six.length() + four.length());
    }

    /** Each letter of each word that may begin a line is looked at. */
    private static void wordsMisspelt() {
        for (String word : "whole above step cart gather keep months rise late rule".split(" ")) {
            for (int i = 0; i < word.length(); i++) {
                textFault(word.substring(0, i) + "q" + word.substring(i + 1) + " 1 1;", 2, 0);
            }
        }
        for (String word : "parts alone alike".split(" ")) {
            for (int i = 0; i < word.length(); i++) {
                textFault("rule " + word.substring(0, i) + "q" + word.substring(i + 1) + ";", 2, 5);
            }
        }
    }

    private static void faults() {
        CoalStreet x = new CoalStreet();
        Streets.tell(x, "  late 9999;");
        due("fault(0)", 1, () -> x.fault(0));
        due("fault(1)", 7, () -> x.fault(1));
        due("fault(2)", -1, () -> x.fault(2));
        due("fault(-1)", -1, () -> x.fault(-1));
        due("fault(BIG)", -1, () -> x.fault(BIG));
        refused(x, "a text that throws tells none", IAE, () -> x.text(1));
        due("fault(0) stays", 1, () -> x.fault(0));
        x.image(0);
        due("a text without", 1, () -> Streets.tell(x, "late 999;"));
        due("fault(0) without", 0, () -> x.fault(0));
        due("fault(1) without", -1, () -> x.fault(1));
        Streets.tell(x, "?");
        x.restore(0);
        due("no image holds it", 1, () -> x.fault(0));
        due("no image holds it", 0, () -> x.fault(1));
    }

    private static void prices() {
        CoalStreet x = new CoalStreet();
        Streets.tell(x, "step 5 8;step 2 10;rise 0 5;");
        due("below all steps", -1, () -> x.price(1));
        due("at the step", 20, () -> x.price(2));
        due("below the next", 40, () -> x.price(4));
        due("at the next", 40, () -> x.price(5));
        due("far above", 1600, () -> x.price(200));
        refused(x, "price(0)", IAE, () -> x.price(0));
        refused(x, "price(-1)", IAE, () -> x.price(-1));
        refused(x, "price(201)", IAE, () -> x.price(201));
        refused(x, "price(BIG)", IAE, () -> x.price(BIG));
        Streets.tell(x, "above;step 5 8;step 2 10;");
        due("above, the first one missing", -1, () -> x.price(5));
        Streets.tell(x, "above;step 5 8;step 2 10;step 1 30;");
        due("above of 1", 30, () -> x.price(1));
        due("above of 4", 60, () -> x.price(4));
        due("above of 6", 76, () -> x.price(6));
        Streets.tell(x, "step 1 10;cart 3 5;cart 10 12;");
        due("one cart", 35, () -> x.price(3));
        due("two carts", 50, () -> x.price(4));
        due("two carts for 6", 70, () -> x.price(6));
        due("a great one for 7", 82, () -> x.price(7));
        due("a great one and one", 147, () -> x.price(13));
        due("a great one and two, or two great ones", 162, () -> x.price(14));
        due("of 200", 2000 + 240, () -> x.price(200));
        Streets.tell(x, "step 1 1;cart 60 99;");
        due("a cart that is too great", 100, () -> x.price(1));
        due("two of them", 61 + 198, () -> x.price(61));
    }

    private static void buys() {
        CoalStreet x = new CoalStreet();
        due("none of none", 0, () -> x.buys(0, 5));
        due("one without steps", -1, () -> x.buys(1, 0));
        Streets.tell(x, "step 3 10;rise 1 7;rise 5 1;");
        due("0", 0, () -> x.buys(0, 1));
        due("2", -1, () -> x.buys(2, 0));
        due("3", 30, () -> x.buys(3, 0));
        due("3 in month 1", 51, () -> x.buys(3, 1));
        due("3 in month 5, which needn't count", 33, () -> x.buys(3, 5));
        Streets.tell(x, "above;step 1 10;step 3 1;cart 2 3;");
        due("above, in one with two carts", 27, () -> x.buys(3, 0));
        Streets.tell(x, "step 1 5;cart 2 1;cart 5 9;");
        due("with three small carts", 28, () -> x.price(5));
        Streets.tell(x, "above;step 1 5;step 2 50;");
        due("above, in several is less", 15, () -> x.buys(3, 0));
        due("above, in one is more", 105, () -> x.price(3));
        due("of 200", 1000, () -> x.buys(200, 0));
        Streets.tell(x, "step 4 3;step 5 20;");
        due("of 8 in two", 24, () -> x.buys(8, 0));
        due("of 9 in two", 12 + 100, () -> x.buys(9, 0));
        due("of 11", 3 * 4 + 7 * 20, () -> x.buys(11, 0));
        refused(x, "buys(-1, 0)", IAE, () -> x.buys(-1, 0));
        refused(x, "buys(201, 0)", IAE, () -> x.buys(201, 0));
        refused(x, "buys(1, 6)", NSE, () -> x.buys(1, 6));
        refused(x, "buys(1, -1)", NSE, () -> x.buys(1, -1));
        refused(x, "buys(201, 6)", NSE, () -> x.buys(201, 6));
    }

    private static void costs() {
        CoalStreet x = Streets.trusting(3, 4, 0);
        due("no steps", -1, () -> x.cost(1));
        due("no wants", 0, () -> x.cost(4));
        Streets.tell(x, "step 1 10;step 5 8;gather 3;");
        due("cost(1)", 30, () -> x.cost(1));
        due("cost(2)", 40, () -> x.cost(2));
        due("cost(3)", 59, () -> x.cost(3));
        due("cost(7)", 62, () -> x.cost(7));
        due("cost(5)", 33, () -> x.cost(5));
        refused(x, "cost(0)", IAE, () -> x.cost(0));
        refused(x, "cost(8)", IAE, () -> x.cost(8));
        refused(x, "cost(-1)", IAE, () -> x.cost(-1));
        x.cellar(1, 1);
        due("more than is wanted is as dear", 40, () -> x.cost(2));
        Streets.tell(x, "step 5 8;keep 2;");
        due("more than is wanted, and kept", 42, () -> x.cost(2));
        due("not into another one's cellar", -1, () -> x.cost(1));
        x.cellar(0, 2);
        due("now it can be", 44, () -> x.cost(1));
        due("the cellars of all", 56, () -> x.cost(3));
        CoalStreet y = new CoalStreet();
        y.house(8);
        for (int m = 0; m < 6; m++) {
            y.want(0, m, 2);
        }
        Streets.tell(y, "step 1 10;step 6 5;keep 1;months 6;rise 5 9;");
        // 6 sacks in month 0 (kept 4, 2), 6 in month 3 (kept 4, 2).
        due("over the months", 72, () -> y.cost(1));
        Streets.tell(y, "step 1 10;step 6 5;keep 1;months 2;rise 5 9;");
        // 6 sacks in month 0 (kept 4, 2) are 36, 4 by the upper step 40.
        due("what is left is kept in the last month, too", 36, () -> y.cost(1));
        Streets.tell(y, "step 1 10;step 6 5;keep 1;rise 5 9;");
        due("one month", 20, () -> y.cost(1));
    }

    private static void bought() {
        CoalStreet x = Streets.trusting(2, 0);
        x.cellar(0, 8);
        x.want(0, 1, 2);
        x.want(0, 2, 2);
        Streets.tell(x, "step 1 10;step 4 5;months 3;");
        // 4 sacks cost 20 as 2 do: of all rows for 20 + 20 or 30 the cheapest is 6 at once, or 4 + 2..
        due("cost", 30, () -> x.cost(1));
        due("in all", 6, () -> x.bought(1, -1));
        due("in month 0", 6, () -> x.bought(1, 0));
        due("in month 1", 0, () -> x.bought(1, 1));
        due("in month 2", 0, () -> x.bought(1, 2));
        refused(x, "month 3 doesn't count", NSE, () -> x.bought(1, 3));
        refused(x, "month -2", NSE, () -> x.bought(1, -2));
        refused(x, "month 6 and no set", NSE, () -> x.bought(0, 6));
        refused(x, "no set", IAE, () -> x.bought(0, 0));
        refused(x, "no set, all months", IAE, () -> x.bought(4, -1));
        Streets.tell(x, "step 1 10;months 3;");
        due("the first row by months", 2, () -> x.bought(1, 0));
        due("the first row by months", 2, () -> x.bought(1, 1));
        due("the first row by months", 2, () -> x.bought(1, 2));
        x.want(0, 0, 4);
        Streets.tell(x, "step 1 10;step 5 8;months 1;");
        due("fewest sacks", 4, () -> x.bought(1, -1));
        Streets.tell(x, "step 1 11;step 5 8;months 1;");
        due("more sacks for less", 5, () -> x.bought(1, -1));
        due("more sacks for less", 5, () -> x.bought(1, 0));
        x.bar(0, 1);
        due("without cost", -1, () -> x.bought(3, 0));
        due("without cost, in all", -1, () -> x.bought(3, -1));
        Streets.tell(x, "step 5 8;");
        due("nothing wanted", 0, () -> x.bought(2, 0));
        x.want(1, 0, 1);
        due("it can't be", -1, () -> x.bought(2, 0));
    }

    private static void leasts() {
        CoalStreet x = Streets.trusting(1, 1, 1);
        Streets.tell(x, "step 1 10;step 2 6;step 3 6;gather 5;");
        // Alone 10 each, two 12 + 5, three 18 + 10.
        due("of one", 10, () -> x.least(1));
        due("of two", 17, () -> x.least(3));
        due("of three", 27, () -> x.least(7));
        Streets.tell(x, "step 2 6;");
        due("none alone", -1, () -> x.least(1));
        due("two", 12, () -> x.least(3));
        due("three", 18, () -> x.least(7));
        x.bar(0, 1);
        due("none where they are barred", -1, () -> x.least(3));
        due("nor then", -1, () -> x.least(7));
        refused(x, "least(0)", IAE, () -> x.least(0));
        refused(x, "least(8)", IAE, () -> x.least(8));
        CoalStreet y = new CoalStreet();
        y.house(0);
        y.house(0);
        y.want(0, 0, 1);
        y.want(1, 0, 1);
        Streets.tell(y, "step 1 10;step 2 1;");
        due("without a holder", 20, () -> y.least(3));
        y.trust(0, 1, true);
        due("with one", 2, () -> y.least(3));
    }

    private static void groups() {
        CoalStreet x = Streets.trusting(1, 1, 1, 1);
        Streets.tell(x, "step 1 10;");
        due("of like ones all in one", 1, () -> x.group(15, -1));
        due("0 in 0", 0, () -> x.group(15, 0));
        due("3 in 0", 0, () -> x.group(15, 3));
        Streets.tell(x, "step 1 10;gather 1;");
        due("each alone", 4, () -> x.group(15, -1));
        due("3 in 3", 3, () -> x.group(15, 3));
        due("numbered as they come", 1, () -> x.group(10, 3));
        due("not in the set", -1, () -> x.group(10, 2));
        due("nobody", -1, () -> x.group(10, 4));
        due("nobody", -1, () -> x.group(10, -2));
        due("nobody", -1, () -> x.group(10, BIG));
        due("nobody", -1, () -> x.group(10, 33));
        Streets.tell(x, "step 1 10;step 2 9;gather 2;");
        // Pairs cost 18 + 2 as two alone, three 27 + 4, more than 30.
        due("the first row: 0 and 1 together", 2, () -> x.group(15, -1));
        due("0 and 1", 0, () -> x.group(15, 1));
        due("2 and 3", 1, () -> x.group(15, 2));
        due("2 and 3", 1, () -> x.group(15, 3));
        x.bar(0, 1);
        due("0 and 2", 1, () -> x.group(15, 1));
        due("0 and 2", 0, () -> x.group(15, 2));
        due("1 and 3", 1, () -> x.group(15, 3));
        refused(x, "group(0, 0)", IAE, () -> x.group(0, 0));
        refused(x, "group(16, 0)", IAE, () -> x.group(16, 0));
        CoalStreet y = Streets.trusting(1, 1, 1, 1, 1, 1, 1);
        Streets.tell(y, "step 1 10;gather 1;");
        due("seven alone", 7, () -> y.group(127, -1));
        due("the last of seven", 6, () -> y.group(127, 6));
        Streets.tell(x, "");
        due("no total", -1, () -> x.group(15, 0));
        due("no total", -1, () -> x.group(15, -1));
    }

    /** Four of whom the last one is trusted by all, but 0 is barred from 1 and 2; a newcomer who trusts the last one. */
    private static CoalStreet aroundThree(int[] cellars, int[] wants) {
        CoalStreet x = new CoalStreet();
        for (int i = 0; i < 5; i++) {
            x.house(cellars[i]);
            x.want(i, 0, wants[i]);
        }
        for (int i = 0; i < 5; i++) {
            if (i != 3) {
                x.trust(i, 3, true);
            }
        }
        x.bar(0, 1);
        x.bar(0, 2);
        return x;
    }

    private static void rowOf(CoalStreet x, int set, int... row) {
        for (int i = 0; i < row.length; i++) {
            int house = i;
            due("group of " + i + " in " + set, row[i], () -> x.group(set, house));
        }
    }

    private static void firstRows() {
        CoalStreet x = aroundThree(new int[5], new int[] {1, 1, 1, 1, 5});
        Streets.tell(x, "step 1 10;step 8 9;");
        // All partings of 0 to 3 cost 40: 0 1 1 1 is ahead of 0 1 2 0, though that one has more in its first group.
        due("0 alone and the others", 2, () -> x.group(15, -1));
        rowOf(x, 15, 0, 1, 1, 1, -1, -1, -1);
        rowOf(x, 14, -1, 0, 0, 0);
        rowOf(x, 13, 0, -1, 1, 0);
        rowOf(x, 11, 0, 1, -1, 0);
        rowOf(x, 9, 0, -1, -1, 0);
        rowOf(x, 7, 0, 1, 2);
        // 4 alone adds 50, to 1, 2 and 3 (8 sacks for 72) 42; to 0 and 3 it would add 50.
        due("to a group of the first row", 1, () -> x.come(15, 4));
        x.bar(1, 2);
        // Now 1 and 2 can't be together: 0 1 2 0, 0 1 2 1, 0 1 2 2 and 0 1 2 3 are left.
        rowOf(x, 15, 0, 1, 2, 0);
        due("three", 3, () -> x.group(15, -1));
        x.bar(0, 3);
        rowOf(x, 15, 0, 1, 2, 1);
        x.bar(1, 3);
        rowOf(x, 15, 0, 1, 2, 2);
        x.bar(2, 3);
        rowOf(x, 15, 0, 1, 2, 3);
        CoalStreet y = aroundThree(new int[] {0, 1, 3, 0, 0}, new int[] {1, 2, 3, 3, 0});
        // From 3 on 1: 0 1 1 1 (2 + 8 for 9 sacks) is ahead of 0 1 2 0 (4 + 3 + 3 for 10), as 1 keeps one there.
        due("n by the sacks of the first row", 3, () -> y.seller(15, 2, 5, 0));
        due("r", 1, () -> y.seller(15, 2, 5, 1));
        due("gain", 10 - 5 * 9, () -> y.seller(15, 2, 5, 2));
    }

    private static void comes() {
        CoalStreet x = Streets.trusting(1, 1, 1, 1);
        Streets.tell(x, "step 1 10;step 3 6;step 4 9;gather 1;");
        // Alone 10; pairs 20 + 1; three 18 + 2; four 36 + 3.
        due("alone where all are alone", 3, () -> x.come(3, 3));
        due("one with one", 1, () -> x.come(1, 1));
        Streets.tell(x, "step 1 10;step 2 9;gather 2;");
        // Pairs 20: to come to one alone adds 10, as alone.
        due("alone goes ahead", 1, () -> x.come(1, 1));
        Streets.tell(x, "step 1 10;step 2 8;");
        due("to one", 0, () -> x.come(1, 1));
        due("to the group's least", 1, () -> x.come(6, 0));
        Streets.tell(x, "step 1 10;step 2 8;gather 2;");
        x.bar(1, 2);
        x.bar(0, 1);
        x.bar(0, 2);
        due("of like groups the one with the lesser least", 0, () -> x.come(7, 3));
        x.bar(0, 3);
        due("not to whom it is barred from", 1, () -> x.come(7, 3));
        x.bar(1, 3);
        x.bar(2, 3);
        due("just alone is left", 3, () -> x.come(7, 3));
        Streets.tell(x, "step 2 8;");
        due("no total", -1, () -> x.come(3, 3));
        x.want(0, 0, 2);
        due("neither group nor alone", -1, () -> x.come(1, 3));
        refused(x, "it is in the set", IAE, () -> x.come(3, 1));
        refused(x, "no set", IAE, () -> x.come(0, 1));
        refused(x, "no set", IAE, () -> x.come(16, 1));
        refused(x, "nobody", NSE, () -> x.come(3, 4));
        refused(x, "nobody, no set", NSE, () -> x.come(0, -1));
    }

    private static void joins() {
        CoalStreet x = Streets.trusting(1, 1, 1);
        Streets.tell(x, "step 1 10;step 3 5;");
        due("join two and one", 15, () -> x.join(3, 4, 0));
        due("less a toll", -5, () -> x.join(4, 3, 20));
        due("the greatest toll", 15 - 100000, () -> x.join(4, 3, 100000));
        due("join two", 0, () -> x.join(1, 2, 0));
        refused(x, "one in common", IAE, () -> x.join(3, 6, 0));
        refused(x, "toll -1", IAE, () -> x.join(1, 2, -1));
        refused(x, "toll 100001", IAE, () -> x.join(1, 2, 100001));
        refused(x, "no set", IAE, () -> x.join(0, 2, 0));
        refused(x, "no set", IAE, () -> x.join(1, 8, 0));
        Streets.tell(x, "step 2 5;");
        due("one has no total", -1000000, () -> x.join(3, 4, 5));
        due("the first has no total", -1000000, () -> x.join(4, 3, 5));
        due("neither has", -1000000, () -> x.join(4, 1, 5));
    }

    private static void fractions() {
        CoalStreet x = Streets.trusting(2, 4);
        fraction(x, "none", 0, 0);
        Streets.tell(x, "step 1 10;rule alike;");
        x.ruled(3, 0);
        fraction(x, "by least numbers", 30, 1);
        Streets.tell(x, "step 1 15;rule alike;");
        x.want(0, 0, 3);
        x.ruled(3, 0);
        fraction(x, "by least numbers", 105, 2);
        due("a call that throws", ISE + "", () -> {
            Streets.tell(x, "");
            x.ruled(3, 0);
            return null;
        });
        fraction(x, "stays", 105, 2);
        x.image(0);
        Streets.tell(x, "step 1 10;");
        x.can(3);
        fraction(x, "missing 0", 0, 1);
        x.restore(0);
        fraction(x, "no image holds it", 0, 1);
    }

    private static void pays() {
        CoalStreet x = Streets.trusting(1, 1);
        due("pay", 0, () -> x.pay(1, 100000));
        due("pay was", 100000, () -> x.pay(1, 7));
        due("another one's", 0, () -> x.pay(0, 0));
        refused(x, "pay(2, 0)", NSE, () -> x.pay(2, 0));
        refused(x, "pay(-1, -1)", NSE, () -> x.pay(-1, -1));
        refused(x, "pay(0, -1)", IAE, () -> x.pay(0, -1));
        refused(x, "pay(0, 100001)", IAE, () -> x.pay(0, 100001));
    }

    private static void bys() {
        CoalStreet x = Streets.trusting(1, 1);
        due("by", 1, () -> x.by(1000));
        due("by was", 1000, () -> x.by(1));
        refused(x, "by(0)", IAE, () -> x.by(0));
        refused(x, "by(1001)", IAE, () -> x.by(1001));
        refused(x, "by(-5)", IAE, () -> x.by(-5));
    }

    private static void judges() {
        CoalStreet x = Streets.trusting(1, 1, 1);
        Streets.tell(x, "step 1 10;step 2 6;step 3 5;");
        // Alone 10, two 12, three 15.
        x.pay(0, 5);
        x.pay(1, 5);
        due("less than the total", -2, () -> x.judge(7));
        x.pay(2, 5);
        due("none leaves", -1, () -> x.judge(7));
        x.pay(0, 11);
        x.pay(1, 2);
        x.pay(2, 2);
        due("the first alone leaves", 1, () -> x.judge(7));
        x.pay(0, 1);
        x.pay(1, 7);
        x.pay(2, 7);
        due("two leave", 6, () -> x.judge(7));
        x.bar(1, 2);
        due("they are barred: 1 and 3 don't, the total is another one", -2, () -> x.judge(7));
        x.pay(0, 2);
        x.pay(1, 10);
        x.pay(2, 10);
        due("as much isn't above", -1, () -> x.judge(7));
        x.by(2);
        due("halves", -2, () -> x.judge(7));
        x.pay(0, 4);
        x.pay(1, 20);
        x.pay(2, 20);
        due("halves", -1, () -> x.judge(7));
        x.pay(0, 3);
        x.pay(1, 21);
        due("half a coin above", 2, () -> x.judge(7));
        due("of a part of them", -2, () -> x.judge(4 | 1));
        refused(x, "no set", IAE, () -> x.judge(0));
        refused(x, "no set", IAE, () -> x.judge(8));
        Streets.tell(x, "");
        refused(x, "no total", ISE, () -> x.judge(7));
    }

    /** Three of whom each two are better off without the third: alone 10, two 13, three 20. */
    private static CoalStreet restless() {
        CoalStreet x = Streets.trusting(1, 1, 1);
        Streets.tell(x, "step 1 10;step 2 6;gather 1;rule parts;");
        return x;
    }

    private static void cans() {
        CoalStreet x = restless();
        due("none holds", 0, () -> x.can(7));
        fraction(x, "half a coin is missing", 1, 2);
        due("of two one holds", 1, () -> x.can(3));
        fraction(x, "nothing is missing", 0, 1);
        refused(x, "of one", IAE, () -> x.can(1));
        refused(x, "no set", IAE, () -> x.can(8));
        CoalStreet y = Streets.trusting(1, 1, 1, 1, 1, 1);
        Streets.tell(y, "step 1 10;step 2 6;step 3 7;gather 1;");
        // Alone 10, two 13, and more aren't better: five are 13 + 13 + 10, at most 6 and a half each.
        due("five", 0, () -> y.can(31));
        fraction(y, "36 less 32 and a half", 7, 2);
        refused(y, "of six", IAE, () -> y.can(63));
        refused(y, "no set", IAE, () -> y.can(64));
        refused(y, "of none", IAE, () -> y.can(0));
        Streets.tell(y, "");
        refused(y, "no total", ISE, () -> y.can(3));
        refused(y, "no total, of one", IAE, () -> y.can(1));
        // Trust of few: just the sets that have a COST count.
        CoalStreet z = restless();
        z.trust(0, 1, false);
        z.trust(1, 0, false);
        due("two of them without holder", 1, () -> z.can(7));
        fraction(z, "nothing is missing", 0, 1);
    }

    private static void shares() {
        CoalStreet x = Streets.trusting(3, 4, 1);
        Streets.tell(x, "step 1 10;step 5 8;");
        due("share least", NOTHING, act(() -> x.share(3, 0, false)));
        fraction(x, "least of 0", 16, 1);
        due("share most", NOTHING, act(() -> x.share(3, 0, true)));
        fraction(x, "most of 0", 30, 1);
        due("share least", NOTHING, act(() -> x.share(3, 1, false)));
        fraction(x, "least of 1", 26, 1);
        due("share most", NOTHING, act(() -> x.share(3, 1, true)));
        fraction(x, "most of 1", 40, 1);
        // 30, 40, 10; 56, 40 (3 + 1 are 40), 40 (4 + 1 at 8), 64.
        due("share of three", NOTHING, act(() -> x.share(7, 2, true)));
        fraction(x, "most of 2", 10, 1);
        due("share of three", NOTHING, act(() -> x.share(7, 2, false)));
        fraction(x, "least of 2", 8, 1);
        due("share of three", NOTHING, act(() -> x.share(7, 0, false)));
        fraction(x, "least of 0", 24, 1);
        refused(x, "not in the set", IAE, act(() -> x.share(3, 2, true)));
        refused(x, "nobody", IAE, act(() -> x.share(3, -1, true)));
        refused(x, "nobody", IAE, act(() -> x.share(3, 32, true)));
        refused(x, "of one", IAE, act(() -> x.share(1, 0, true)));
        refused(x, "no set", IAE, act(() -> x.share(9, 0, true)));
        Streets.tell(x, "");
        refused(x, "no total", ISE, act(() -> x.share(3, 0, true)));
        CoalStreet y = restless();
        refused(y, "none holds", ISE, act(() -> y.share(7, 0, true)));
        refused(y, "none holds, not in the set", IAE, act(() -> y.share(7, 3, true)));
        // Halves: alone 10, two 12, three 18: each two pay 12 at most, so each 6 and no other.
        CoalStreet z = Streets.trusting(1, 1, 1);
        Streets.tell(z, "step 1 10;step 2 6;");
        due("each 6", NOTHING, act(() -> z.share(7, 1, true)));
        fraction(z, "each 6", 6, 1);
        CoalStreet w = Streets.trusting(1, 1, 0);
        Streets.tell(w, "step 1 9;step 2 6;");
        due("nothing to pay", NOTHING, act(() -> w.share(7, 2, true)));
        fraction(w, "nothing", 0, 1);
    }

    private static void rows() {
        CoalStreet x = Streets.trusting(3, 4, 1);
        Streets.tell(x, "step 1 10;step 5 8;");
        due("row", NOTHING, act(() -> x.row(3, 0)));
        fraction(x, "row of 0", 16, 1);
        due("row", NOTHING, act(() -> x.row(3, 1)));
        fraction(x, "row of 1", 40, 1);
        // Of three: 0 pays 24 at least, then 1 pays 30 at least (2 pays 10 at most).
        due("row", NOTHING, act(() -> x.row(7, 0)));
        fraction(x, "row of 0", 24, 1);
        due("row", NOTHING, act(() -> x.row(7, 1)));
        fraction(x, "row of 1", 30, 1);
        due("row", NOTHING, act(() -> x.row(7, 2)));
        fraction(x, "row of 2", 10, 1);
        refused(x, "not in the set", IAE, act(() -> x.row(3, 2)));
        refused(x, "nobody", IAE, act(() -> x.row(3, -1)));
        refused(x, "of one", IAE, act(() -> x.row(1, 0)));
        refused(x, "no set", IAE, act(() -> x.row(0, 0)));
        Streets.tell(x, "");
        refused(x, "no total", ISE, act(() -> x.row(3, 0)));
        CoalStreet y = restless();
        refused(y, "none holds", ISE, act(() -> y.row(7, 0)));
    }

    private static void put(CoalStreet x, int tray, int sort, long... numbers) {
        x.tray(tray, sort, numbers.length);
        for (int i = 0; i < numbers.length; i++) {
            x.write(tray, i, numbers[i]);
        }
    }

    private static void proofs() {
        CoalStreet x = restless();
        due("missing", 0, () -> x.proof(0, 7, 2));
        put(x, 0, 0, 3, 1, 5, 1, 6, 1);
        due("each pair half", 1, () -> x.proof(0, 7, 2));
        due("each pair a third", 0, () -> x.proof(0, 7, 3));
        due("of less", 0, () -> x.proof(0, 7, 1));
        put(x, 0, 3, 3, 50000, 5, 50000, 6, 50000);
        due("far too much", 0, () -> x.proof(0, 7, 1000));
        put(x, 0, 1, 3, 500, 5, 500, 6, 500);
        due("in thousandths", 1, () -> x.proof(0, 7, 1000));
        put(x, 0, 1, 3, 500, 5, 500, 6, 499);
        due("too few for one", 0, () -> x.proof(0, 7, 1000));
        put(x, 0, 1, 3, 250, 3, 250, 5, 500, 6, 500, 7, 0);
        due("a set told twice, and one with 0", 1, () -> x.proof(0, 7, 1000));
        put(x, 1, 2, 3, 1, 5, 1, 6);
        due("it ends behind a set", 0, () -> x.proof(1, 7, 2));
        put(x, 1, 2, 3, 1, 5, 1, 6, 1, 7);
        due("it ends behind a set that isn't needed", 0, () -> x.proof(1, 7, 2));
        put(x, 1, 2, 3, 1, 5, 1, 6, 1, 8, 0);
        due("a set that isn't of these", 0, () -> x.proof(1, 7, 2));
        put(x, 1, 2, 3, 1, 5, 1, 6, 1, 0, 0);
        due("an empty set", 0, () -> x.proof(1, 7, 2));
        put(x, 1, 2, 3, 1, 5, 1, 6, 1, -1, 0);
        due("a set below 0", 0, () -> x.proof(1, 7, 2));
        put(x, 1, 3, 3, 1, 5, 1, 6, 1, 1L << 32 | 1, 0);
        due("a far set", 0, () -> x.proof(1, 7, 2));
        put(x, 1, 3, 3, 1, 5, 1, 6, 1, 1, -1);
        due("a number below 0", 0, () -> x.proof(1, 7, 2));
        put(x, 1, 3, 3, 1, 5, 1, 6, 1, 1, 100001);
        due("a number above 100,000", 0, () -> x.proof(1, 7, 2));
        proofsAtTheEdges();
        put(x, 1, 3);
        due("an empty tray", 0, () -> x.proof(1, 7, 2));
        put(x, 1, 3, 3, 1);
        due("of two one holds", 0, () -> x.proof(1, 3, 1));
        x.bar(1, 2);
        due("a set without a cost", 0, () -> x.proof(0, 7, 2));
        refused(x, "no tray", NSE, () -> x.proof(4, 7, 2));
        refused(x, "no tray, no set", NSE, () -> x.proof(-1, 0, 0));
        refused(x, "of one", IAE, () -> x.proof(0, 1, 2));
        refused(x, "no set", IAE, () -> x.proof(0, 8, 2));
        refused(x, "d 0", IAE, () -> x.proof(0, 7, 0));
        refused(x, "d 1001", IAE, () -> x.proof(0, 7, 1001));
        Streets.tell(x, "");
        refused(x, "no total", ISE, () -> x.proof(0, 7, 2));
        refused(x, "no total, missing", ISE, () -> x.proof(3, 7, 2));
        refused(x, "no total, d 0", IAE, () -> x.proof(3, 7, 0));
    }

    private static void proofsAtTheEdges() {
        CoalStreet x = Streets.trusting(1, 1, 1, 0);
        Streets.tell(x, "step 1 10;step 2 6;gather 1;");
        // As restless, with a fourth one who wants nothing, and costs nothing alone.
        put(x, 0, 3, 3, 1, 5, 1, 6, 1);
        due("the fourth one has none", 0, () -> x.proof(0, 15, 2));
        put(x, 0, 3, 3, 1, 5, 1, 6, 1, 8, 100000);
        due("the greatest number", 1, () -> x.proof(0, 15, 2));
        put(x, 0, 3, 3, 1, 5, 1, 6, 1, 8, 100001);
        due("a greater one", 0, () -> x.proof(0, 15, 2));
        put(x, 0, 3, 3, 1, 5, 1, 6, 1, 8, 2, 1, 0);
        due("set 1 with 0", 1, () -> x.proof(0, 15, 2));
        put(x, 0, 3, 3, 1, 5, 1, 6, 1, 8, 3, 8, -1);
        due("a number below 0", 0, () -> x.proof(0, 15, 2));
        put(x, 0, 3, 3, 1, 5, 1, 6, 1, 8, 0);
        due("of three, a set with a fourth one", 0, () -> x.proof(0, 7, 2));
        x.house(0);
        for (int i = 0; i < 3; i++) {
            x.trust(4, i, true);
            x.trust(i, 4, true);
        }
        x.want(4, 0, 1);
        // Households 0, 1 and 4; 2 isn't of them.
        put(x, 0, 3, 3, 1, 17, 1, 18, 1);
        due("others of three", 1, () -> x.proof(0, 19, 2));
        put(x, 0, 3, 3, 1, 17, 1, 18, 1, 4, 0);
        due("a set between that isn't of them", 0, () -> x.proof(0, 19, 2));
        put(x, 0, 3, 3, 1, 17, 1, 18, 1, 5, 0);
        due("a set that isn't wholly of them", 0, () -> x.proof(0, 19, 2));
    }

    private static void ruled() {
        CoalStreet x = Streets.trusting(3, 4, 0);
        Streets.tell(x, "step 1 10;step 5 8;");
        due("parts", NOTHING, act(() -> x.ruled(3, 0)));
        fraction(x, "parts of 0", 24, 1);
        due("parts", NOTHING, act(() -> x.ruled(7, 2)));
        fraction(x, "parts of 2", 0, 1);
        x.want(0, 1, 1);
        due("parts of one month", NOTHING, act(() -> x.ruled(3, 0)));
        fraction(x, "parts of 0", 24, 1);
        Streets.tell(x, "step 1 10;step 5 8;months 2;");
        due("parts of two months", NOTHING, act(() -> x.ruled(3, 0)));
        fraction(x, "parts of 0", 33, 1);
        Streets.tell(x, "step 1 10;step 5 8;rule alone;");
        due("alone", NOTHING, act(() -> x.ruled(3, 1)));
        fraction(x, "alone of 1", 32, 1);
        Streets.tell(x, "step 1 10;step 5 8;rule alike;");
        due("alike", NOTHING, act(() -> x.ruled(7, 2)));
        fraction(x, "alike of 2", 56, 3);
        due("of one", NOTHING, act(() -> x.ruled(2, 1)));
        fraction(x, "of one", 40, 1);
        x.house(0);
        x.trust(3, 2, true);
        Streets.tell(x, "step 1 10;rule parts;");
        due("all 0", NOTHING, act(() -> x.ruled(12, 3)));
        fraction(x, "all 0", 0, 1);
        refused(x, "not in the set", IAE, act(() -> x.ruled(3, 2)));
        refused(x, "nobody", IAE, act(() -> x.ruled(3, -1)));
        refused(x, "no set", IAE, act(() -> x.ruled(0, 0)));
        refused(x, "no set", IAE, act(() -> x.ruled(16, 0)));
        Streets.tell(x, "step 5 8;rule alone;");
        refused(x, "no total", ISE, act(() -> x.ruled(1, 0)));
        x.cellar(0, 2);
        x.cellar(1, 1);
        x.want(0, 0, 4);
        x.want(0, 1, 0);
        due("with cellars", NOTHING, act(() -> x.ruled(3, 0)));
        fraction(x, "with cellars", 32, 1);
        x.cellar(0, 0);
        refused(x, "one has no cost alone", ISE, act(() -> x.ruled(3, 1)));
        Streets.tell(x, "step 5 8;rule alike;");
        due("alike it is no matter", NOTHING, act(() -> x.ruled(3, 1)));
        fraction(x, "alike", 32, 1);
    }

    private static void keeps() {
        CoalStreet x = restless();
        due("two leave", 3, () -> x.keeps(7));
        due("of two none leaves", -1, () -> x.keeps(3));
        due("of one none leaves", -1, () -> x.keeps(4));
        CoalStreet y = Streets.trusting(1, 8);
        Streets.tell(y, "step 1 10;step 8 5;rule alike;");
        // 45 together; alone 10 and 40.
        due("the small one leaves", 1, () -> y.keeps(3));
        Streets.tell(y, "step 1 10;step 8 5;rule parts;");
        due("by parts none", -1, () -> y.keeps(3));
        Streets.tell(y, "step 1 10;step 8 5;rule alone;");
        due("by costs alone none", -1, () -> y.keeps(3));
        Streets.tell(y, "above;step 1 10;step 2 9;");
        // Alone 10 and 73, together 82: by parts 9 and a ninth, and 72 and 8 ninths.
        due("by parts above", 82, () -> y.least(3));
        due("by parts above none leaves", -1, () -> y.keeps(3));
        Streets.tell(y, "above;step 1 10;step 2 9;gather 2;");
        // Each alone: by parts 9 and 2 ninths, and 73 and 7 ninths.
        due("by parts the great one leaves", 2, () -> y.keeps(3));
        refused(y, "no set", IAE, () -> y.keeps(0));
        refused(y, "no set", IAE, () -> y.keeps(4));
        Streets.tell(y, "");
        refused(y, "no total", ISE, () -> y.keeps(3));
        Streets.tell(y, "step 9 1;rule alone;");
        refused(y, "none alone", ISE, () -> y.keeps(3));
        Streets.tell(y, "step 9 1;rule alike;");
        due("alike none leaves", -1, () -> y.keeps(3));
        fraction(x, "it tells none", 0, 0);
        fraction(y, "it tells none", 0, 0);
    }

    private static void doubts() {
        CoalStreet x = new CoalStreet();
        x.house(0);
        x.house(0);
        due("doubt", 1, () -> x.doubt(0, 0, 9));
        due("doubt", 2, () -> x.doubt(0, 8, 1));
        due("doubt", 3, () -> x.doubt(0, 8, 1));
        refused(x, "9 sacks", IAE, () -> x.doubt(0, 9, 1));
        refused(x, "-1 sacks", IAE, () -> x.doubt(0, -1, 1));
        refused(x, "chance 0", IAE, () -> x.doubt(0, 1, 0));
        refused(x, "chance 10", IAE, () -> x.doubt(0, 1, 10));
        refused(x, "nobody", NSE, () -> x.doubt(2, 9, 0));
        refused(x, "nobody", NSE, () -> x.doubt(-1, 1, 1));
        due("doubt", 4, () -> x.doubt(0, 8, 1));
        due("a fifth", -1, () -> x.doubt(0, 8, 1));
        due("a fifth that is wrong", IAE, () -> x.doubt(0, 8, 10));
        due("another one's", 1, () -> x.doubt(1, 1, 1));
        due("count(5)", 5, () -> x.count(5));
    }

    private static void risks() {
        CoalStreet x = new CoalStreet();
        x.house(0);
        x.house(0);
        x.want(0, 0, 7);
        x.want(1, 0, 1);
        x.want(1, 1, 5);
        x.doubt(0, 0, 1);
        x.doubt(0, 2, 3);
        Streets.tell(x, "step 1 10;late 30;keep 1;gather 50;months 2;");
        due("risk", 1, () -> x.risk(1, 0));
        fraction(x, "45 late", 45, 1);
        due("risk", 1, () -> x.risk(1, 1));
        fraction(x, "10 and a quarter kept and 3 quarters late", 131, 4);
        due("risk", 1, () -> x.risk(1, 8));
        fraction(x, "80 and kept", 80 * 2 + 13, 2);
        due("for sure", 1, () -> x.risk(2, 0));
        fraction(x, "30", 30, 1);
        due("of both, without holder", 1, () -> x.risk(3, 2));
        // 20, a quarter: 1 wanted (1 kept), 3 quarters: 3 wanted (1 late).
        fraction(x, "of both", 20 * 4 + 1 + 90, 4);
        x.doubt(1, 0, 1);
        x.doubt(1, 3, 1);
        due("all by themselves", 1, () -> x.risk(3, 2));
        // 0 + 0: 2 kept, 1/8; 2 + 0: 0, 3/8; 0 + 3: 1 late, 1/8; 2 + 3: 3 late, 3/8.
        fraction(x, "all by themselves", (20 * 8 + 2 + 30 + 270) / 2, 4);
        x.bar(0, 1);
        due("barred are no matter", 1, () -> x.risk(3, 16));
        due("rise", 1, () -> {
            Streets.tell(x, "step 3 10;late 30;rise 0 2;rise 1 50;");
            return x.risk(1, 3);
        });
        fraction(x, "36", 36, 1);
        due("it can't be bought", 0, () -> x.risk(1, 2));
        fraction(x, "it stays", 36, 1);
        refused(x, "q -1", IAE, () -> x.risk(1, -1));
        refused(x, "q 9", IAE, () -> x.risk(1, 9));
        refused(x, "q 17", IAE, () -> x.risk(3, 17));
        refused(x, "no set", IAE, () -> x.risk(0, 0));
        refused(x, "no set", IAE, () -> x.risk(4, 0));
    }

    private static void befores() {
        CoalStreet x = new CoalStreet();
        x.house(0);
        x.house(0);
        x.doubt(0, 0, 1);
        x.doubt(0, 2, 3);
        Streets.tell(x, "step 1 10;late 30;keep 1;");
        due("before", 2, () -> x.before(1));
        fraction(x, "its risk", 41, 2);
        Streets.tell(x, "step 1 10;late 5;keep 1;");
        due("none is least", 0, () -> x.before(1));
        fraction(x, "its risk", 15, 2);
        Streets.tell(x, "late 5;keep 1;");
        due("nothing can be bought", 0, () -> x.before(1));
        fraction(x, "its risk", 15, 2);
        x.want(1, 0, 8);
        Streets.tell(x, "step 1 10;late 10;keep 1;");
        due("of like ones the least", 0, () -> x.before(2));
        fraction(x, "its risk", 80, 1);
        Streets.tell(x, "step 1 10;late 11;keep 1;");
        due("the most of one", 8, () -> x.before(2));
        due("of both", 8, () -> x.before(3));
        Streets.tell(x, "step 1 10;step 15 1;late 11;keep 0;");
        due("of both", 15, () -> x.before(3));
        fraction(x, "its risk", 15, 1);
        refused(x, "no set", IAE, () -> x.before(0));
        refused(x, "no set", IAE, () -> x.before(4));
        refused(x, "no set", IAE, () -> x.before(-1));
        CoalStreet y = new CoalStreet();
        for (int i = 0; i < 7; i++) {
            y.house(0);
            for (int j = 0; j < 4; j++) {
                y.doubt(i, 8, 9);
            }
        }
        Streets.tell(y, "step 1 99;rise 0 99;cart 1 99;late 999;keep 99;");
        due("the greatest numbers", 56, () -> y.before(127));
        fraction(y, "the greatest numbers", 56 * 297, 1);
        due("the greatest numbers", 1, () -> y.risk(127, 0));
        fraction(y, "the greatest numbers", 56 * 999, 1);
    }

    private static void sellers() {
        CoalStreet x = Streets.trusting(1, 1, 3, 1, 1);
        Streets.tell(x, "step 1 50;");
        due("n", 2, () -> x.seller(2, 10, 3, 0));
        due("r", 1, () -> x.seller(2, 10, 3, 1));
        due("gain", 7, () -> x.seller(2, 10, 3, 2));
        due("gain of p alone", 7, () -> x.seller(2, 10, 3, 3));
        due("no more than p alone: a step that isn't reached", 4, () -> x.seller(4, 10, 3, 0));
        due("gain", 21, () -> x.seller(4, 10, 3, 2));
        due("p alone", -10, () -> x.seller(1, 10, 20, 3));
        // With a cellar a step may sell more than is wanted; it gains nothing where coal is dear.
        x.cellar(2, 8);
        due("n with a cellar", 4, () -> x.seller(4, 10, 3, 0));
        due("r with a cellar", 8, () -> x.seller(4, 10, 3, 1));
        due("as without", 21, () -> x.seller(4, 10, 3, 2));
        due("for nothing", 30, () -> x.seller(4, 10, 0, 3));
        due("the tariff stays", 50, () -> x.price(1));
        Streets.tell(x, "step 1 50;cart 8 40;");
        // Both in one cart: 10 each and 40, less 3 each.
        due("carts", 60 - 6, () -> x.seller(3, 10, 3, 3));
        Streets.tell(x, "rise 0 5;");
        due("no steps are needed; rise", 12 + 1, () -> x.seller(1, 10, 2, 3));
        due("what is wanted changes", 0, () -> {
            x.want(0, 0, 0);
            return x.seller(1, 10, 2, 3);
        });
        // 5 sacks for 10 and 5 more, less 2.
        due("of four", 65, () -> x.seller(15, 10, 2, 3));
        due("another p", 5 * 12 + 5 * 5 - 10, () -> x.seller(14, 12, 2, 3));
        due("p as before", 5 * 10 + 5 * 5 - 10, () -> x.seller(14, 10, 2, 3));
        due("another k", 5 * 10 + 5 * 5 - 15, () -> x.seller(14, 10, 3, 3));
        due("another set", 3 * 15 - 9, () -> x.seller(4, 10, 3, 3));
        sellersSeeChanges();
        refused(x, "of five", IAE, () -> x.seller(31, 10, 3, 0));
        refused(x, "no set", IAE, () -> x.seller(0, 10, 3, 0));
        refused(x, "no set", IAE, () -> x.seller(32, 10, 3, 0));
        refused(x, "p 1", IAE, () -> x.seller(1, 1, 3, 0));
        refused(x, "p 21", IAE, () -> x.seller(1, 21, 3, 0));
        refused(x, "k -1", IAE, () -> x.seller(1, 10, -1, 0));
        refused(x, "k 21", IAE, () -> x.seller(1, 10, 21, 0));
        refused(x, "what -1", IAE, () -> x.seller(1, 10, 3, -1));
        refused(x, "what 4", IAE, () -> x.seller(1, 10, 3, 4));
    }

    private static void sellersSeeChanges() {
        CoalStreet x = Streets.trusting(1, 1);
        Streets.tell(x, "cart 2 30;");
        due("in one cart", 50, () -> x.seller(3, 10, 0, 3));
        x.trust(0, 1, false);
        x.trust(1, 0, false);
        due("without trust in two", 80, () -> x.seller(3, 10, 0, 3));
        x.trust(1, 0, true);
        due("in one again", 50, () -> x.seller(3, 10, 0, 3));
        x.bar(1, 0);
        due("barred in two", 80, () -> x.seller(3, 10, 0, 3));
        x.want(1, 0, 2);
        due("one wants more", 90, () -> x.seller(3, 10, 0, 3));
        Streets.tell(x, "cart 2 20;");
        due("carts cost less", 70, () -> x.seller(3, 10, 0, 3));
        x.cellar(1, 8);
        due("cellars alone don't change it", 70, () -> x.seller(3, 10, 0, 3));
        x.tray(0, 0, 1);
        x.take(0, 1);
        due("one wants nothing", 30, () -> x.seller(3, 10, 0, 3));
    }

    private static void trays() {
        CoalStreet x = new CoalStreet();
        x.house(0);
        due("tray", NOTHING, act(() -> x.tray(0, 0, 0)));
        due("no place", OUT, () -> x.write(0, 0, 1));
        due("tray", NOTHING, act(() -> x.tray(3, 3, 40)));
        due("last place", 5, () -> x.write(3, 39, 5));
        due("no place", OUT, () -> x.write(3, 40, 5));
        due("again", NOTHING, act(() -> x.tray(3, 1, 3)));
        due("all 0", 3, () -> x.take(3, 0));
        due("no place", OUT, () -> x.write(3, 3, 5));
        x.write(3, 0, 5);
        due("tray(4, ..)", NSE, act(() -> x.tray(4, 0, 1)));
        due("tray(-1, ..)", NSE, act(() -> x.tray(-1, 9, 99)));
        due("sort 4", IAE, act(() -> x.tray(3, 4, 1)));
        due("sort -1", IAE, act(() -> x.tray(3, -1, 1)));
        due("41", IAE, act(() -> x.tray(3, 0, 41)));
        due("-1", IAE, act(() -> x.tray(3, 0, -1)));
        due("as it was", 3, () -> x.take(3, 0));
        due("as it was", 5, () -> x.want(0, 0, 0));
        due("again", NOTHING, act(() -> x.tray(3, 1, 3)));
        due("0s again", 3, () -> x.take(3, 0));
        due("0s again", 0, () -> x.want(0, 0, 0));
    }

    private static void writes() {
        CoalStreet x = new CoalStreet();
        long v = 0x1234_5678_9abc_def0L;
        long[] cut = {(byte) v, (short) v, (int) v, v};
        for (int i = 0; i < 4; i++) {
            int sort = i;
            x.tray(i, i, 2);
            due("cut to sort " + i, cut[i], () -> x.write(sort, 1, v));
        }
        due("8 bits", -128, () -> x.write(0, 0, 128));
        due("8 bits", 127, () -> x.write(0, 0, 127));
        due("8 bits", 0, () -> x.write(0, 0, 256));
        due("8 bits", -1, () -> x.write(0, 0, -1));
        due("16 bits", -32768, () -> x.write(1, 0, 32768));
        due("16 bits", 32767, () -> x.write(1, 0, 32767));
        due("32 bits", SMALL, () -> x.write(2, 0, 1L << 31));
        due("32 bits", BIG, () -> x.write(2, 0, BIG));
        due("64 bits", Long.MIN_VALUE, () -> x.write(3, 0, Long.MIN_VALUE));
        due("no place", OUT, () -> x.write(0, 2, 1));
        due("no place", OUT, () -> x.write(0, -1, 1));
        due("no place", OUT, () -> x.write(0, BIG, 1));
        due("no tray", NSE, () -> x.write(4, 0, 1));
        due("no tray", NSE, () -> x.write(-1, -1, 1));
        CoalStreet y = new CoalStreet();
        due("missing", ISE, () -> y.write(0, 99, 1));
    }

    private static void takes() {
        CoalStreet x = new CoalStreet();
        x.house(0);
        x.house(0);
        Streets.tell(x, "step 1 10;months 6;");
        for (int m = 0; m < 6; m++) {
            x.want(0, m, 1);
        }
        due("cost", 60, () -> x.cost(1));
        put(x, 0, 3, 8, 0, 3);
        due("take", 3, () -> x.take(0, 0));
        due("month 0", 8, () -> x.want(0, 0, 8));
        due("month 1", 0, () -> x.want(0, 1, 0));
        due("month 2", 3, () -> x.want(0, 2, 3));
        due("month 3 stays", 1, () -> x.want(0, 3, 1));
        due("cost", 140, () -> x.cost(1));
        due("another one", 3, () -> x.take(0, 1));
        due("another one", 110, () -> x.cost(2));
        put(x, 1, 0, 1, 1, 1, 1, 1, 1);
        due("six", 6, () -> x.take(1, 0));
        due("six", 60, () -> x.cost(1));
        put(x, 2, 0, 1, 1, 1, 1, 1, 1, 1);
        refused(x, "seven", IAE, () -> x.take(2, 0));
        put(x, 2, 0, 4, 4, 9);
        refused(x, "9", IAE, () -> x.take(2, 0));
        put(x, 2, 0, 4, 4, -1);
        refused(x, "-1", IAE, () -> x.take(2, 0));
        put(x, 2, 3, 4, 4, 1L << 32);
        refused(x, "far too much", IAE, () -> x.take(2, 0));
        put(x, 2, 3);
        due("none", 0, () -> x.take(2, 0));
        refused(x, "missing", ISE, () -> x.take(3, 0));
        refused(x, "no tray", NSE, () -> x.take(4, 0));
        refused(x, "nobody", NSE, () -> x.take(0, 2));
        refused(x, "nobody, missing", NSE, () -> x.take(3, -1));
    }

    private static void images() {
        CoalStreet x = Streets.trusting(1, 2);
        Streets.tell(x, "step 1 10;step 3 5;gather 2;keep 1;months 2;rise 1 4;late 9;rule alone;cart 5 6;above;");
        x.cellar(0, 3);
        x.pay(0, 5);
        x.by(7);
        x.doubt(1, 5, 5);
        x.bar(0, 1);
        for (int i = 0; i < 3; i++) {
            int image = i;
            due("image", NOTHING, act(() -> x.image(image)));
        }
        String was = Streets.print(x);
        due("image(3)", NSE, act(() -> x.image(3)));
        due("image(-1)", NSE, act(() -> x.image(-1)));
        x.house(4);
        x.want(0, 0, 8);
        x.cellar(0, 0);
        x.trust(0, 1, false);
        x.pay(0, 6);
        x.by(8);
        x.doubt(1, 6, 6);
        x.doubt(2, 6, 6);
        Streets.tell(x, "step 2 9;");
        x.bar(2, 1);
        x.image(1);
        String later = Streets.print(x);
        x.restore(0);
        Check.same("all as in the image", was, Streets.print(x));
        due("barred as then", 0, () -> x.bar(0, 1));
        x.restore(1);
        Check.same("all as in the later image", later, Streets.print(x));
        x.restore(2);
        Check.same("all as in the image of before", was, Streets.print(x));
        due("a house comes as new", 2, () -> x.house(1));
        due("it isn't barred", 1, () -> x.bar(2, 1));
        due("it has no doubts", 1, () -> x.doubt(2, 1, 1));
        due("the doubts of then", 2, () -> x.doubt(1, 0, 5));
        due("their chances", 1, () -> x.risk(2, 0));
        fraction(x, "two and a half late", 45, 2);
    }

    /** Two images of which each holds its own doubts of one household. */
    private static void imagesOfDoubts() {
        imagesOfDoubtsOf(0);
        imagesOfDoubtsOf(6);
    }

    private static void imagesOfDoubtsOf(int house) {
        CoalStreet x = Streets.trusting(0, 0, 0, 0, 0, 0, 0);
        Streets.tell(x, "late 1;");
        x.image(0);
        x.doubt(house, 4, 1);
        x.doubt(house, 8, 1);
        x.image(1);
        x.restore(0);
        x.doubt(house, 1, 5);
        x.doubt(house, 2, 5);
        x.image(2);
        x.restore(1);
        x.risk(1 << house, 0);
        fraction(x, "the doubts of image 1", 6, 1);
        x.restore(2);
        x.risk(1 << house, 0);
        fraction(x, "the doubts of image 2", 3, 2);
        x.restore(1);
        x.doubt(house, 0, 7);
        x.risk(1 << house, 0);
        fraction(x, "the chances of image 1", 4, 3);
    }

    private static void restores() {
        CoalStreet x = Streets.trusting(1, 2);
        Streets.tell(x, "step 1 10;");
        refused(x, "none was made", ISE, act(() -> x.restore(0)));
        refused(x, "no such one", NSE, act(() -> x.restore(3)));
        refused(x, "no such one", NSE, act(() -> x.restore(-1)));
        x.image(0);
        x.tray(0, 0, 1);
        x.write(0, 0, 7);
        Streets.feed(x, "late 5;");
        x.can(3);
        x.want(0, 0, 5);
        due("cost", 50, () -> x.cost(1));
        due("a seller's gain", 50, () -> x.seller(1, 10, 0, 3));
        x.restore(0);
        due("cost as then", 10, () -> x.cost(1));
        due("a seller's gain as then", 10, () -> x.seller(1, 10, 0, 3));
        due("the tape stays", 20, () -> x.count(4));
        fraction(x, "the fraction stays", 0, 1);
        due("the tray stays", 1, () -> x.take(0, 0));
        due("the tray stays", 7, () -> x.want(0, 0, 1));
        x.restore(0);
        due("more than once", 10, () -> x.cost(1));
        refused(x, "the others weren't made", ISE, act(() -> x.restore(1)));
    }

    private static void counts() {
        CoalStreet x = Streets.trusting(1, 2, 3);
        x.doubt(0, 1, 1);
        x.doubt(2, 1, 1);
        Streets.tell(x, "step 1 10;step 2 9;cart 1 1;months 4;rule alike;late 123;gather 45;keep 67;");
        Streets.feed(x, "late 5;");
        int[] due = {3, 2, 1, 4, 20, 2, 2, 123, 45, 67};
        for (int i = 0; i < due.length; i++) {
            int what = i;
            due("count(" + i + ")", due[i], () -> x.count(what));
        }
        due("count(10)", -1, () -> x.count(10));
        due("count(-1)", -1, () -> x.count(-1));
        due("count(SMALL)", -1, () -> x.count(SMALL));
    }
}
