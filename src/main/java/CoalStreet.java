import java.util.Arrays;
import java.util.NoSuchElementException;

public final class CoalStreet {
    public static final int NONE = -1;

    private static final int HOUSES = 7;
    private static final int MONTHS = 6;
    private static final int SETS = 128;
    private static final int SACKS = 8;
    private static final int DOUBTS = 4;
    private static final int TRAYS = 4;
    private static final int MOST_BUY = 200;
    private static final int MOST_COINS = 100000;
    private static final int NO_COINS = -1000000;
    // Above every cost, and twice as much is still an int.
    private static final int FAR = 1 << 29;

    private final Street street;
    private final Street[] images;
    private final Reader reader;
    private final Prices prices;
    private final Plans plans;
    private final Groups groups;
    private final Parting parting;
    private final Chances chances;
    private final Seller seller;
    private final Trays trays;
    private long top;
    private long bottom;

    public CoalStreet() {
        street = new Street();
        images = new Street[3];
        reader = new Reader();
        prices = new Prices(street.tariff);
        plans = new Plans(street, street.tariff, prices);
        groups = new Groups(plans);
        parting = new Parting(street, groups);
        chances = new Chances(street);
        seller = new Seller(street);
        trays = new Trays();
    }

    // ---- the street

    public int house(int cellar) throws IllegalArgumentException {
        needSacks(cellar);
        int house = street.settle(cellar);
        forgetHouse(house);
        return house;
    }

    public int want(int house, int month, int sacks) throws NoSuchElementException, IllegalArgumentException {
        needHouse(house);
        needMonth(month, MONTHS);
        needSacks(sacks);
        int at = house * MONTHS + month;
        int was = street.wants[at];
        street.wants[at] = sacks;
        forgetHouse(house);
        return was;
    }

    public int cellar(int house, int sacks) throws NoSuchElementException, IllegalArgumentException {
        needHouse(house);
        needSacks(sacks);
        int was = street.cellars[house];
        street.cellars[house] = sacks;
        forgetHouse(house);
        return was;
    }

    public boolean bar(int a, int b) throws NoSuchElementException, IllegalArgumentException {
        needTwo(a, b);
        boolean were = isOf(street.bars[a], b);
        street.bars[a] |= 1 << b;
        street.bars[b] |= 1 << a;
        seller.forget();
        return !were;
    }

    public boolean trust(int one, int other, boolean is) throws NoSuchElementException, IllegalArgumentException {
        needTwo(one, other);
        boolean was = isOf(street.trusters[other], one);
        if (was != is) {
            street.trusters[other] ^= 1 << one;
            seller.forget();
        }
        return was;
    }

    public int holder(int set) throws IllegalArgumentException {
        needSet(set);
        return street.holderOf(set);
    }

    public int chain(int one, int other) throws NoSuchElementException {
        needHouse(one);
        needHouse(other);
        return street.stepsBetween(one, other);
    }

    // ---- the tariff

    public int feed(int a, int b, int c, int d, int e) {
        if (reader.length + 20 > Reader.TAPE) {
            return NONE;
        }
        reader.append(a);
        reader.append(b);
        reader.append(c);
        reader.append(d);
        reader.append(e);
        return reader.length;
    }

    public int text(int n) throws IllegalArgumentException {
        if (n < 0 || n > reader.length) {
            throw new IllegalArgumentException();
        }
        if (reader.read(n)) {
            street.tariff.copyFrom(reader.draft);
            forgetAll();
            return reader.lines;
        }
        return -10 - reader.kind;
    }

    public int fault(int what) {
        if (what == 0) {
            return reader.kind;
        }
        return what == 1 ? reader.place : NONE;
    }

    public int price(int q) throws IllegalArgumentException {
        needWithin(q, 1, MOST_BUY);
        prices.reach(q);
        return orNone(prices.ofOne[q]);
    }

    public int buys(int q, int month) throws NoSuchElementException, IllegalArgumentException {
        needMonth(month, MONTHS);
        needWithin(q, 0, MOST_BUY);
        return costOfBuys(q, month);
    }

    // ---- sets and groups

    public int cost(int set) throws IllegalArgumentException {
        needSet(set);
        return plans.costOf(set);
    }

    public int bought(int set, int month) throws NoSuchElementException, IllegalArgumentException {
        if (month != NONE) {
            needMonth(month, street.tariff.months);
        }
        needSet(set);
        if (plans.costOf(set) == NONE) {
            return NONE;
        }
        return month == NONE ? plans.sacksOf(set) : plans.sacksIn(set, month);
    }

    public int least(int set) throws IllegalArgumentException {
        needSet(set);
        return groups.reckon(set) ? groups.totals[set] : NONE;
    }

    public int group(int set, int house) throws IllegalArgumentException {
        needSet(set);
        if (!groups.reckon(set)) {
            return NONE;
        }
        return house == NONE ? groups.howMany(set) : groups.numberOf(set, house);
    }

    public int come(int set, int house) throws NoSuchElementException, IllegalArgumentException {
        needHouse(house);
        needSet(set);
        if (isOf(set, house)) {
            throw new IllegalArgumentException();
        }
        return groups.reckon(set) ? groups.placeFor(set, house) : NONE;
    }

    public int join(int one, int other, int toll) throws IllegalArgumentException {
        needSet(one);
        needSet(other);
        needWithin(toll, 0, MOST_COINS);
        if ((one & other) != 0) {
            throw new IllegalArgumentException();
        }
        // Of two sets that have TOTALS the set of both has one, too: its TOTAL alone tells nothing of the two.
        groups.reckon(one | other);
        int apart = groups.totals[one] + groups.totals[other];
        return apart >= FAR ? NO_COINS : apart - groups.totals[one | other] - toll;
    }

    // ---- partings; each call that says so tells a FRACTION

    public long upper() {
        return top;
    }

    public long lower() {
        return bottom;
    }

    public int pay(int house, int v) throws NoSuchElementException, IllegalArgumentException {
        needHouse(house);
        needWithin(v, 0, MOST_COINS);
        int was = street.pays[house];
        street.pays[house] = v;
        return was;
    }

    public int by(int d) throws IllegalArgumentException {
        needWithin(d, 1, 1000);
        int was = street.over;
        street.over = d;
        return was;
    }

    public int judge(int set) throws IllegalArgumentException, IllegalStateException {
        needSet(set);
        needTotal(set);
        return groups.judged(set);
    }

    public boolean can(int set) throws IllegalArgumentException, IllegalStateException {
        needFew(set);
        needTotal(set);
        boolean holds = parting.fill(set);
        tell(parting.missing(), parting.over);
        return holds;
    }

    public void share(int set, int house, boolean most) throws IllegalArgumentException, IllegalStateException {
        needFew(set);
        needMember(set, house);
        needParting(set);
        int place = parting.placeOf(house);
        parting.push(place, most);
        tell(parting.valueOf(place), parting.over);
    }

    public void row(int set, int house) throws IllegalArgumentException, IllegalStateException {
        needFew(set);
        needMember(set, house);
        needParting(set);
        int place = parting.placeOf(house);
        for (int i = 0; i <= place; i++) {
            parting.push(i, false);
        }
        tell(parting.valueOf(place), parting.over);
    }

    public boolean proof(int tray, int set, int d)
            throws NoSuchElementException, IllegalArgumentException, IllegalStateException {
        needTray(tray);
        needFew(set);
        needWithin(d, 1, 1000);
        needTotal(set);
        return trays.proves(tray, set, d, groups);
    }

    public void ruled(int set, int house) throws IllegalArgumentException, IllegalStateException {
        needSet(set);
        needMember(set, house);
        needRule(set);
        tell((long) groups.totals[set] * parting.weights[house], parting.weightOf(set));
    }

    public int keeps(int set) throws IllegalArgumentException, IllegalStateException {
        needSet(set);
        needRule(set);
        return parting.firstToLeave(set);
    }

    // ---- doubt, sellers

    public int doubt(int house, int sacks, int chance) throws NoSuchElementException, IllegalArgumentException {
        needHouse(house);
        needSacks(sacks);
        needWithin(chance, 1, 9);
        return street.addDoubt(house, sacks, chance);
    }

    public boolean risk(int set, int q) throws IllegalArgumentException {
        needSet(set);
        needWithin(q, 0, SACKS * Integer.bitCount(set));
        int cost = costOfBuys(q, 0);
        if (cost == NONE) {
            return false;
        }
        chances.spread(set);
        tell(chances.riskOf(q, cost), chances.all);
        return true;
    }

    public int before(int set) throws IllegalArgumentException {
        needSet(set);
        chances.spread(set);
        int best = 0;
        long least = chances.riskOf(0, 0);
        int most = SACKS * Integer.bitCount(set);
        for (int q = 1; q <= most; q++) {
            int cost = costOfBuys(q, 0);
            long risk = cost == NONE ? least : chances.riskOf(q, cost);
            if (risk < least) {
                best = q;
                least = risk;
            }
        }
        tell(least, chances.all);
        return best;
    }

    public int seller(int set, int p, int k, int what) throws IllegalArgumentException {
        needSet(set);
        needWithin(Integer.bitCount(set), 1, 4);
        needWithin(p, 2, 20);
        needWithin(k, 0, 20);
        needWithin(what, 0, 3);
        seller.seek(set, p, k);
        if (what == 0) {
            return seller.from;
        }
        if (what == 1) {
            return seller.each;
        }
        return what == 2 ? seller.most : seller.plain;
    }

    // ---- trays, images

    public void tray(int tray, int sort, int many) throws NoSuchElementException, IllegalArgumentException {
        needTray(tray);
        needWithin(sort, 0, 3);
        needWithin(many, 0, Trays.WIDE);
        trays.lay(tray, sort, many);
    }

    public long write(int tray, int place, long v)
            throws NoSuchElementException, IllegalStateException, IndexOutOfBoundsException {
        needTray(tray);
        needLaid(tray);
        if (place < 0 || place >= trays.sizes[tray]) {
            throw new IndexOutOfBoundsException();
        }
        return trays.put(tray, place, v);
    }

    public int take(int tray, int house)
            throws NoSuchElementException, IllegalStateException, IllegalArgumentException {
        needTray(tray);
        needHouse(house);
        needLaid(tray);
        int many = trays.sizes[tray];
        needWithin(many, 0, MONTHS);
        for (int i = 0; i < many; i++) {
            long v = trays.at(tray, i);
            if (v < 0 || v > SACKS) {
                throw new IllegalArgumentException();
            }
        }
        for (int i = 0; i < many; i++) {
            street.wants[house * MONTHS + i] = (int) trays.at(tray, i);
        }
        forgetHouse(house);
        return many;
    }

    public void image(int i) throws NoSuchElementException {
        needImage(i);
        if (images[i] == null) {
            images[i] = new Street();
        }
        images[i].copyFrom(street);
    }

    public void restore(int i) throws NoSuchElementException, IllegalStateException {
        needImage(i);
        if (images[i] == null) {
            throw new IllegalStateException();
        }
        street.copyFrom(images[i]);
        forgetAll();
    }

    public int count(int what) {
        Tariff tariff = street.tariff;
        switch (what) {
            case 0: return street.count;
            case 1: return tariff.steps;
            case 2: return tariff.carts;
            case 3: return tariff.months;
            case 4: return reader.length;
            case 5: return street.allDoubts();
            case 6: return tariff.rule;
            case 7: return tariff.late;
            case 8: return tariff.gather;
            case 9: return tariff.keep;
            default: return NONE;
        }
    }

    // ---- what the calls need

    private void needHouse(int house) {
        if (!street.has(house)) {
            throw new NoSuchElementException();
        }
    }

    private void needTwo(int a, int b) {
        needHouse(a);
        needHouse(b);
        if (a == b) {
            throw new IllegalArgumentException();
        }
    }

    private void needMonth(int month, int months) {
        if (month < 0 || month >= months) {
            throw new NoSuchElementException();
        }
    }

    private void needTray(int tray) {
        if (tray < 0 || tray >= TRAYS) {
            throw new NoSuchElementException();
        }
    }

    private void needLaid(int tray) {
        if (trays.sizes[tray] == NONE) {
            throw new IllegalStateException();
        }
    }

    private void needImage(int i) {
        if (i < 0 || i >= images.length) {
            throw new NoSuchElementException();
        }
    }

    private void needWithin(int v, int low, int high) {
        if (v < low || v > high) {
            throw new IllegalArgumentException();
        }
    }

    private void needSacks(int sacks) {
        needWithin(sacks, 0, SACKS);
    }

    private void needSet(int set) {
        needWithin(set, 1, (1 << street.count) - 1);
    }

    private void needFew(int set) {
        needSet(set);
        needWithin(Integer.bitCount(set), 2, 5);
    }

    private void needMember(int set, int house) {
        if (!isOf(set, house)) {
            throw new IllegalArgumentException();
        }
    }

    private void needTotal(int set) {
        if (!groups.reckon(set)) {
            throw new IllegalStateException();
        }
    }

    private void needParting(int set) {
        needTotal(set);
        if (!parting.fill(set)) {
            throw new IllegalStateException();
        }
    }

    private void needRule(int set) {
        needTotal(set);
        if (!parting.weigh(set)) {
            throw new IllegalStateException();
        }
    }

    // ---- what they share

    private static boolean isOf(int set, int house) {
        return house >= 0 && house < HOUSES && (set >> house & 1) == 1;
    }

    private static int orNone(int cost) {
        return cost >= FAR ? NONE : cost;
    }

    private int costOfBuys(int q, int month) {
        prices.reach(q);
        int cost = prices.ofMany[q];
        return cost >= FAR ? NONE : cost + q * street.tariff.rises[month];
    }

    private void forgetHouse(int house) {
        plans.forget(house);
        seller.forget();
    }

    private void forgetAll() {
        prices.forget();
        plans.forgetAll();
        seller.forget();
    }

    private void tell(long up, long down) {
        long most = greatestDivisor(up, down);
        if (most > 0) {
            top = up / most;
            bottom = down / most;
        }
    }

    private static long greatestDivisor(long a, long b) {
        long high = a;
        long low = b;
        // Euclid's steps for two longs are fewer than a hundred.
        for (int i = 0; i < 200 && low != 0; i++) {
            long rest = high % low;
            high = low;
            low = rest;
        }
        return high;
    }

    // Prices, carts and rules, as a TEXT tells them.
    private static final class Tariff {
        static final int STEPS = 6;
        static final int CARTS = 4;

        boolean above;
        int steps;
        final int[] froms = new int[STEPS];
        final int[] eaches = new int[STEPS];
        int carts;
        final int[] holds = new int[CARTS];
        final int[] fees = new int[CARTS];
        int gather;
        int keep;
        int months = 1;
        final int[] rises = new int[MONTHS];
        int late;
        int rule;

        void clear() {
            above = false;
            steps = 0;
            carts = 0;
            gather = 0;
            keep = 0;
            months = 1;
            Arrays.fill(rises, 0);
            late = 0;
            rule = 0;
        }

        void copyFrom(Tariff other) {
            above = other.above;
            steps = other.steps;
            System.arraycopy(other.froms, 0, froms, 0, STEPS);
            System.arraycopy(other.eaches, 0, eaches, 0, STEPS);
            carts = other.carts;
            System.arraycopy(other.holds, 0, holds, 0, CARTS);
            System.arraycopy(other.fees, 0, fees, 0, CARTS);
            gather = other.gather;
            keep = other.keep;
            months = other.months;
            System.arraycopy(other.rises, 0, rises, 0, MONTHS);
            late = other.late;
            rule = other.rule;
        }

        boolean hasStep(int from) {
            for (int i = 0; i < steps; i++) {
                if (froms[i] == from) {
                    return true;
                }
            }
            return false;
        }

        void addStep(int from, int each) {
            if (steps < STEPS) {
                froms[steps] = from;
                eaches[steps] = each;
                steps++;
            }
        }

        void addCart(int hold, int fee) {
            if (carts < CARTS) {
                holds[carts] = hold;
                fees[carts] = fee;
                carts++;
            }
        }

        // What a sack costs by the step of n; FAR where none is.
        int eachOf(int n) {
            int from = 0;
            int each = FAR;
            for (int i = 0; i < steps; i++) {
                if (froms[i] <= n && froms[i] > from) {
                    from = froms[i];
                    each = eaches[i];
                }
            }
            return each;
        }

        // The least cost of a row of carts that ends with one more cart, from those of fewer sacks.
        int cartsOf(int q, int[] fewer) {
            int least = carts == 0 ? 0 : FAR;
            for (int i = 0; i < carts; i++) {
                int rest = Math.max(0, q - holds[i]);
                if (rest < q && rest < fewer.length) {
                    least = Math.min(least, fees[i] + fewer[rest]);
                }
            }
            return least;
        }
    }

    // All that an IMAGE holds.
    private static final class Street {
        final Tariff tariff = new Tariff();
        int count;
        final int[] cellars = new int[HOUSES];
        final int[] wants = new int[HOUSES * MONTHS];
        // Of each household the set of those that it is barred from, and of those that trust it.
        final int[] bars = new int[HOUSES];
        final int[] trusters = new int[HOUSES];
        final int[] pays = new int[HOUSES];
        int over = 1;
        final int[] doubts = new int[HOUSES];
        final int[] doubtSacks = new int[HOUSES * DOUBTS];
        final int[] doubtChances = new int[HOUSES * DOUBTS];

        void copyFrom(Street other) {
            tariff.copyFrom(other.tariff);
            count = other.count;
            System.arraycopy(other.cellars, 0, cellars, 0, HOUSES);
            System.arraycopy(other.wants, 0, wants, 0, HOUSES * MONTHS);
            System.arraycopy(other.bars, 0, bars, 0, HOUSES);
            System.arraycopy(other.trusters, 0, trusters, 0, HOUSES);
            System.arraycopy(other.pays, 0, pays, 0, HOUSES);
            over = other.over;
            System.arraycopy(other.doubts, 0, doubts, 0, HOUSES);
            System.arraycopy(other.doubtSacks, 0, doubtSacks, 0, HOUSES * DOUBTS);
            System.arraycopy(other.doubtChances, 0, doubtChances, 0, HOUSES * DOUBTS);
        }

        boolean has(int house) {
            return house >= 0 && house < count;
        }

        int settle(int cellar) {
            if (count >= HOUSES) {
                return NONE;
            }
            cellars[count] = cellar;
            return count++;
        }

        int addDoubt(int house, int sacks, int chance) {
            if (doubts[house] >= DOUBTS) {
                return NONE;
            }
            int at = house * DOUBTS + doubts[house];
            doubtSacks[at] = sacks;
            doubtChances[at] = chance;
            return ++doubts[house];
        }

        int allDoubts() {
            int all = 0;
            for (int i = 0; i < HOUSES; i++) {
                all += doubts[i];
            }
            return all;
        }

        int holderOf(int set) {
            for (int i = 0; i < HOUSES; i++) {
                int others = set & ~(1 << i);
                if (isOf(set, i) && (others & ~trusters[i]) == 0) {
                    return i;
                }
            }
            return NONE;
        }

        // Whether the set may buy in one group: nobody of it is barred from another one, and it has a holder.
        boolean mayBuy(int set) {
            for (int i = 0; i < HOUSES; i++) {
                if (isOf(set, i) && (bars[i] & set) != 0) {
                    return false;
                }
            }
            return holderOf(set) != NONE;
        }

        int stepsBetween(int one, int other) {
            int reached = 1 << one;
            for (int steps = 0; steps < HOUSES; steps++) {
                if (isOf(reached, other)) {
                    return steps;
                }
                reached |= trustedBy(reached);
            }
            return NONE;
        }

        private int trustedBy(int set) {
            int all = 0;
            for (int i = 0; i < HOUSES; i++) {
                if ((trusters[i] & set) != 0) {
                    all |= 1 << i;
                }
            }
            return all;
        }

        int cellarsOf(int set) {
            int all = 0;
            for (int i = 0; i < HOUSES; i++) {
                if (isOf(set, i)) {
                    all += cellars[i];
                }
            }
            return all;
        }

        int wantsOf(int set, int month) {
            int all = 0;
            for (int i = 0; i < HOUSES; i++) {
                if (isOf(set, i)) {
                    all += wants[i * MONTHS + month];
                }
            }
            return all;
        }

        int wantsThatCount(int house) {
            int all = 0;
            for (int m = 0; m < tariff.months && m < MONTHS; m++) {
                all += wants[house * MONTHS + m];
            }
            return all;
        }
    }

    // The words of a TEXT, with the bounds of the numbers behind them.
    private enum Word {
        WHOLE("whole"),
        ABOVE("above"),
        STEP("step", 1, 60, 1, 99),
        CART("cart", 1, 60, 0, 99),
        GATHER("gather", 0, 99),
        KEEP("keep", 0, 99),
        MONTHS("months", 1, 6),
        RISE("rise", 0, 5, 0, 99),
        LATE("late", 0, 999),
        RULE("rule"),
        PARTS("parts", 0),
        ALONE("alone", 1),
        ALIKE("alike", 2);

        private static final Word[] ALL = values();

        final String letters;
        final int numbers;
        final int low;
        final int high;
        final int secondLow;
        final int secondHigh;
        // Which RULE the word names; NONE for words that begin a LINE.
        final int rule;

        Word(String letters) {
            this(letters, 0, 0, 0, 0, 0, NONE);
        }

        Word(String letters, int rule) {
            this(letters, 0, 0, 0, 0, 0, rule);
        }

        Word(String letters, int low, int high) {
            this(letters, 1, low, high, 0, 0, NONE);
        }

        Word(String letters, int low, int high, int secondLow, int secondHigh) {
            this(letters, 2, low, high, secondLow, secondHigh, NONE);
        }

        Word(String letters, int numbers, int low, int high, int secondLow, int secondHigh, int rule) {
            this.letters = letters;
            this.numbers = numbers;
            this.low = low;
            this.high = high;
            this.secondLow = secondLow;
            this.secondHigh = secondHigh;
            this.rule = rule;
        }
    }

    // The tape, and the reading of a TEXT from it.
    private static final class Reader {
        static final int TAPE = 300;
        private static final int END = 0;
        private static final int WORD = 1;
        private static final int NUMBER = 2;
        private static final int STOP = 3;

        final byte[] tape = new byte[TAPE];
        int length;
        int kind;
        int place = NONE;
        int lines;
        final Tariff draft = new Tariff();
        private int size;
        // The token that was read last: what it is, from where to where it goes, what number it is.
        private int sort;
        private int start;
        private int next;
        private int number;

        void append(int four) {
            for (int shift = 24; shift >= 0 && length < TAPE; shift -= 8) {
                tape[length] = (byte) (four >> shift);
                length++;
            }
        }

        // Whether the first n bytes are without a FAULT: then the draft is their TARIFF.
        boolean read(int n) {
            size = Math.min(n, length);
            length = 0;
            kind = 0;
            place = NONE;
            lines = 0;
            next = 0;
            draft.clear();
            advance();
            for (int i = 0; i <= TAPE && kind == 0 && sort != END; i++) {
                readLine();
                if (kind == 0) {
                    lines++;
                    advance();
                }
            }
            return kind == 0;
        }

        private void readLine() {
            Word word = wordHere();
            if (word == null || word.rule != NONE) {
                blame(2);
            } else if (isFull(word)) {
                blame(4);
            } else if (word == Word.RULE) {
                readRule();
            } else {
                readNumbers(word);
            }
            if (kind == 0) {
                advance();
                if (kind == 0 && sort != STOP) {
                    blame(2);
                }
            }
        }

        private boolean isFull(Word word) {
            return word == Word.STEP && draft.steps == Tariff.STEPS
                    || word == Word.CART && draft.carts == Tariff.CARTS;
        }

        private void readRule() {
            advance();
            if (kind != 0) {
                return;
            }
            Word word = wordHere();
            if (word == null || word.rule == NONE) {
                blame(2);
            } else {
                draft.rule = word.rule;
            }
        }

        private void readNumbers(Word word) {
            int first = word.numbers > 0 ? readNumber(word.low, word.high) : 0;
            if (kind == 0 && word == Word.STEP && draft.hasStep(first)) {
                blame(4);
            }
            int second = kind == 0 && word.numbers > 1 ? readNumber(word.secondLow, word.secondHigh) : 0;
            if (kind == 0) {
                note(word, first, second);
            }
        }

        private int readNumber(int low, int high) {
            advance();
            if (kind == 0 && sort != NUMBER) {
                blame(2);
            }
            if (kind == 0 && (number < low || number > high)) {
                blame(3);
            }
            return number;
        }

        private void note(Word word, int first, int second) {
            if (word == Word.WHOLE) {
                draft.above = false;
            } else if (word == Word.ABOVE) {
                draft.above = true;
            } else if (word == Word.STEP) {
                draft.addStep(first, second);
            } else if (word == Word.CART) {
                draft.addCart(first, second);
            } else if (word == Word.GATHER) {
                draft.gather = first;
            } else if (word == Word.KEEP) {
                draft.keep = first;
            } else if (word == Word.MONTHS) {
                draft.months = first;
            } else if (word == Word.RISE) {
                draft.rises[first] = second;
            } else if (word == Word.LATE) {
                draft.late = first;
            }
        }

        private void blame(int what) {
            kind = what;
            place = start;
        }

        private void advance() {
            while (next < size && isBlank(tape[next])) {
                next++;
            }
            start = next;
            number = 0;
            if (next >= size) {
                start = size;
                sort = END;
            } else if (isLetter(tape[next])) {
                sort = WORD;
                while (next < size && isLetter(tape[next])) {
                    next++;
                }
            } else if (isDigit(tape[next])) {
                sort = NUMBER;
                readDigits();
            } else if (tape[next] == ';') {
                sort = STOP;
                next++;
            } else {
                blame(1);
            }
        }

        private void readDigits() {
            while (next < size && isDigit(tape[next])) {
                if (next - start == 3) {
                    blame(1);
                    return;
                }
                number = number * 10 + tape[next] - '0';
                next++;
            }
        }

        private Word wordHere() {
            if (sort != WORD) {
                return null;
            }
            for (int i = 0; i < Word.ALL.length; i++) {
                if (spells(Word.ALL[i].letters)) {
                    return Word.ALL[i];
                }
            }
            return null;
        }

        private boolean spells(String letters) {
            if (letters.length() != next - start) {
                return false;
            }
            for (int i = 0; i < letters.length(); i++) {
                if (letters.charAt(i) != tape[start + i]) {
                    return false;
                }
            }
            return true;
        }

        private static boolean isBlank(int b) {
            return b == 10 || b == 32;
        }

        private static boolean isLetter(int b) {
            return b >= 'a' && b <= 'z';
        }

        private static boolean isDigit(int b) {
            return b >= '0' && b <= '9';
        }
    }

    // PRICES and BUYS of a tariff without rises, reckoned as far as somebody asks; FAR where there is none.
    private static final class Prices {
        private final Tariff tariff;
        private final int[] goods = new int[MOST_BUY + 1];
        private final int[] carts = new int[MOST_BUY + 1];
        final int[] ofOne = new int[MOST_BUY + 1];
        final int[] ofMany = new int[MOST_BUY + 1];
        private int known;

        Prices(Tariff tariff) {
            this.tariff = tariff;
        }

        void forget() {
            known = 0;
        }

        void reach(int most) {
            for (int q = known + 1; q <= most && q <= MOST_BUY; q++) {
                goods[q] = goodsOf(q, tariff.eachOf(q));
                carts[q] = tariff.cartsOf(q, carts);
                ofOne[q] = goods[q] >= FAR ? FAR : goods[q] + carts[q];
                ofMany[q] = leastOf(q);
                known = q;
            }
        }

        private int goodsOf(int q, int each) {
            if (each >= FAR) {
                return FAR;
            }
            if (tariff.above) {
                return goods[q - 1] >= FAR ? FAR : goods[q - 1] + each;
            }
            return q * each;
        }

        private int leastOf(int q) {
            int least = FAR;
            for (int one = 1; one <= q; one++) {
                int cost = ofOne[one] + ofMany[q - one];
                if (cost < least) {
                    least = cost;
                }
            }
            return least;
        }
    }

    // COSTS of sets, and THE PLAN of each. A plan is worth its cost times UNIT and its sacks, so that of two plans
    // with one cost the one with fewer sacks is worth less.
    private static final class Plans {
        private static final int UNIT = 512;
        private static final int UNKNOWN = -1;
        private static final int WIDE = HOUSES * SACKS + 1;

        private final Street street;
        private final Tariff tariff;
        private final Prices prices;
        private final int[] worths = new int[SETS];
        // For each month and each number of sacks kept till then: the least worth from then on, with their keeping.
        private final int[] table = new int[(MONTHS + 1) * WIDE];
        // The worth of buying so many sacks in the month that is looked at.
        private final int[] monthly = new int[2 * WIDE];

        Plans(Street street, Tariff tariff, Prices prices) {
            this.street = street;
            this.tariff = tariff;
            this.prices = prices;
            Arrays.fill(worths, UNKNOWN);
        }

        void forgetAll() {
            Arrays.fill(worths, UNKNOWN);
        }

        void forget(int house) {
            for (int set = 0; set < SETS; set++) {
                if (isOf(set, house)) {
                    worths[set] = UNKNOWN;
                }
            }
        }

        int costOf(int set) {
            if (set < 1 || set >= SETS || !street.mayBuy(set)) {
                return NONE;
            }
            prices.reach(2 * SACKS * Integer.bitCount(set));
            int worth = worthOf(set);
            return worth >= FAR ? NONE : worth / UNIT + tariff.gather * (Integer.bitCount(set) - 1);
        }

        // How many sacks THE PLAN of a set with a COST buys in all.
        int sacksOf(int set) {
            return worthOf(set) % UNIT;
        }

        int sacksIn(int set, int month) {
            int room = street.cellarsOf(set);
            worths[set] = UNKNOWN;
            worthOf(set);
            int kept = 0;
            int sacks = 0;
            for (int m = 0; m <= month && m < MONTHS; m++) {
                int want = street.wantsOf(set, m);
                priceMonth(m, want + room);
                int left = leftIn(m, kept, want, room);
                sacks = want + left - kept;
                kept = left;
            }
            return sacks;
        }

        private int worthOf(int set) {
            if (worths[set] != UNKNOWN) {
                return worths[set];
            }
            int room = street.cellarsOf(set);
            int months = Math.min(tariff.months, MONTHS);
            for (int left = 0; left <= room; left++) {
                table[months * WIDE + left] = left * tariff.keep * UNIT;
            }
            for (int m = months - 1; m >= 0; m--) {
                int want = street.wantsOf(set, m);
                priceMonth(m, want + room);
                int most = m == 0 ? 0 : room;
                for (int kept = 0; kept <= most; kept++) {
                    int worth = leastFrom(m, kept, want, room);
                    table[m * WIDE + kept] = worth >= FAR ? FAR : worth + kept * tariff.keep * UNIT;
                }
            }
            worths[set] = table[0];
            return table[0];
        }

        private void priceMonth(int month, int most) {
            int rise = tariff.rises[month];
            for (int q = 0; q <= most && q < monthly.length; q++) {
                int cost = prices.ofMany[q];
                monthly[q] = cost >= FAR ? FAR : (cost + q * rise) * UNIT + q;
            }
        }

        private int leastFrom(int month, int kept, int want, int room) {
            int least = FAR;
            int over = want - kept;
            int next = (month + 1) * WIDE;
            for (int left = Math.max(0, -over); left <= room; left++) {
                int worth = monthly[over + left] + table[next + left];
                if (worth < least) {
                    least = worth;
                }
            }
            return least;
        }

        // How many sacks are left where the fewest are bought among plans of the least worth.
        private int leftIn(int month, int kept, int want, int room) {
            int least = leastFrom(month, kept, want, room);
            int next = (month + 1) * WIDE;
            int first = Math.max(0, kept - want);
            for (int left = first; left <= room; left++) {
                if (monthly[want + left - kept] + table[next + left] == least) {
                    return left;
                }
            }
            return first;
        }
    }

    // TOTALS and GROUPS of a set and of all sets in it.
    private static final class Groups {
        private static final int DIGIT = 3;
        private static final int LAST = (1 << DIGIT) - 1;

        final Plans plans;
        final int[] costs = new int[SETS];
        final int[] totals = new int[SETS];
        // Of the best parting of each set: the group of its least household, and the row of numbers of groups, as one
        // number with DIGIT bits for each household, those of the first one the highest, 0 for those not in the set.
        private final int[] firsts = new int[SETS];
        private final int[] rows = new int[SETS];
        // A row with a 1 for each household of a set.
        private final int[] ones = new int[SETS];

        Groups(Plans plans) {
            this.plans = plans;
            for (int set = 1; set < SETS; set++) {
                int lowest = Integer.numberOfTrailingZeros(set);
                ones[set] = ones[set & (set - 1)] | 1 << shiftOf(lowest);
            }
        }

        private static int shiftOf(int house) {
            return (HOUSES - 1 - house) * DIGIT;
        }

        // Whether the set has a TOTAL; costs and totals of all sets in it stand then.
        boolean reckon(int set) {
            for (int sub = 1; sub <= set; sub++) {
                if ((sub & ~set) == 0) {
                    costs[sub] = plans.costOf(sub);
                    part(sub);
                }
            }
            return totals[set] < FAR;
        }

        private void part(int set) {
            totals[set] = FAR;
            firsts[set] = 0;
            rows[set] = 0;
            int low = set & -set;
            for (int group = set; group > 0; group = (group - 1) & set) {
                if ((group & low) != 0 && costs[group] != NONE) {
                    keepIfAhead(set, group);
                }
            }
        }

        // The best parting that begins with a group: behind it goes the best one of the rest, each group numbered one
        // more. The first group alone doesn't tell which row is ahead: others may differ at a lower household.
        private void keepIfAhead(int set, int group) {
            int rest = set ^ group;
            int total = costs[group] + totals[rest];
            int row = rows[rest] + ones[rest];
            if (total < totals[set] || total < FAR && total == totals[set] && row < rows[set]) {
                totals[set] = total;
                firsts[set] = group;
                rows[set] = row;
            }
        }

        int howMany(int set) {
            int many = 0;
            int rest = set;
            for (int i = 0; i < HOUSES && rest != 0; i++) {
                rest ^= firsts[rest];
                many++;
            }
            return many;
        }

        int numberOf(int set, int house) {
            return isOf(set, house) ? rows[set] >> shiftOf(house) & LAST : NONE;
        }

        int sacksOf(int set) {
            int sacks = 0;
            int rest = set;
            for (int i = 0; i < HOUSES && rest != 0; i++) {
                sacks += plans.sacksOf(firsts[rest]);
                rest ^= firsts[rest];
            }
            return sacks;
        }

        // The least household of the group that a newcomer goes to.
        int placeFor(int set, int house) {
            int alone = plans.costOf(1 << house);
            int least = alone == NONE ? FAR : alone;
            int place = alone == NONE ? NONE : house;
            int rest = set;
            for (int i = 0; i < HOUSES && rest != 0; i++) {
                int group = firsts[rest];
                int with = plans.costOf(group | 1 << house);
                if (with != NONE && with - costs[group] < least) {
                    least = with - costs[group];
                    place = Integer.numberOfTrailingZeros(group);
                }
                rest ^= group;
            }
            return place;
        }

        int judged(int set) {
            long over = plans.street.over;
            if (paidBy(set) != totals[set] * over) {
                return -2;
            }
            for (int sub = 1; sub <= set; sub++) {
                if ((sub & ~set) == 0 && costs[sub] != NONE && paidBy(sub) > costs[sub] * over) {
                    return sub;
                }
            }
            return NONE;
        }

        private long paidBy(int set) {
            long all = 0;
            for (int i = 0; i < HOUSES; i++) {
                if (isOf(set, i)) {
                    all += plans.street.pays[i];
                }
            }
            return all;
        }
    }

    // PARTINGS that hold, and those by RULE. The partings by which no set leaves are told by rows of whole numbers over
    // one lower number: over times the variable of the row, and the row's numbers times the other variables, are
    // the row's last number. Variables are what each household pays, and what each set with a COST spares by that.
    // The last row is what shall be the most.
    private static final class Parting {
        private static final int FEW = 5;
        private static final int ROUNDS = 1000000;

        private final Street street;
        private final Groups groups;
        private final long[][] rows = new long[(1 << FEW)][FEW + 1];
        private final int[] rowNames = new int[1 << FEW];
        private final int[] columnNames = new int[FEW];
        private final boolean[] fixed = new boolean[FEW];
        private final int[] houses = new int[FEW];
        private int width;
        private int height;
        private int set;
        long over;
        final int[] weights = new int[HOUSES];

        Parting(Street street, Groups groups) {
            this.street = street;
            this.groups = groups;
        }

        // Whether a parting of the set (of at most FEW, with a TOTAL) holds: its households pay the most that they can.
        boolean fill(int set) {
            begin(set);
            climb();
            return missing() == 0;
        }

        long missing() {
            return groups.totals[set] * over - rows[height][width];
        }

        private void begin(int set) {
            this.set = set;
            over = 1;
            width = 0;
            for (int i = 0; i < HOUSES && width < FEW; i++) {
                if (isOf(set, i)) {
                    houses[width] = i;
                    columnNames[width] = width;
                    fixed[width] = false;
                    width++;
                }
            }
            height = 0;
            for (int sub = 1; sub <= set; sub++) {
                if ((sub & ~set) == 0 && groups.costs[sub] != NONE) {
                    addRow(sub);
                }
            }
            Arrays.fill(rows[height], -1);
            rows[height][width] = 0;
        }

        private void addRow(int sub) {
            if (height + 1 >= rows.length) {
                return;
            }
            for (int j = 0; j < width; j++) {
                rows[height][j] = isOf(sub, houses[j]) ? 1 : 0;
            }
            rows[height][width] = groups.costs[sub];
            rowNames[height] = width + height;
            height++;
        }

        int placeOf(int house) {
            for (int j = 0; j < width; j++) {
                if (houses[j] == house) {
                    return j;
                }
            }
            return 0;
        }

        // What the household at a place pays, times over.
        long valueOf(int place) {
            int row = rowOf(place);
            return row == NONE ? 0 : rows[row][width];
        }

        private int rowOf(int name) {
            for (int i = 0; i < height; i++) {
                if (rowNames[i] == name) {
                    return i;
                }
            }
            return NONE;
        }

        // From now on just partings count that were best by now; of these one is found by which the household at
        // a place pays most or least.
        void push(int place, boolean most) {
            for (int j = 0; j < width; j++) {
                // Such a variable above 0 would make worse what was best.
                fixed[j] = fixed[j] || rows[height][j] > 0;
            }
            int row = rowOf(place);
            for (int j = 0; j <= width; j++) {
                long number = row != NONE ? rows[row][j] : 0;
                if (row == NONE && j < width && columnNames[j] == place) {
                    number = -over;
                }
                rows[height][j] = most ? number : -number;
            }
            climb();
        }

        // The simplex algorithm; by taking the least names it comes to no row twice.
        private void climb() {
            for (int round = 0; round < ROUNDS; round++) {
                int column = columnToEnter();
                if (column == NONE) {
                    return;
                }
                int row = rowToLeave(column);
                if (row == NONE) {
                    return;
                }
                turn(row, column);
            }
        }

        private int columnToEnter() {
            int best = NONE;
            for (int j = 0; j < width; j++) {
                if (!fixed[j] && rows[height][j] < 0 && (best == NONE || columnNames[j] < columnNames[best])) {
                    best = j;
                }
            }
            return best;
        }

        private int rowToLeave(int column) {
            int best = NONE;
            for (int i = 0; i < height; i++) {
                if (rows[i][column] <= 0) {
                    continue;
                }
                long more = best == NONE ? -1
                        : rows[i][width] * rows[best][column] - rows[best][width] * rows[i][column];
                if (more < 0 || more == 0 && rowNames[i] < rowNames[best]) {
                    best = i;
                }
            }
            return best;
        }

        private void turn(int row, int column) {
            long pivot = rows[row][column];
            if (pivot <= 0 || over <= 0) {
                return;
            }
            for (int i = 0; i <= height; i++) {
                if (i != row) {
                    turnRow(rows[i], rows[row], column);
                }
            }
            rows[row][column] = over;
            over = pivot;
            int name = rowNames[row];
            rowNames[row] = columnNames[column];
            columnNames[column] = name;
        }

        // The division leaves no rest: each number is a determinant of the first rows.
        private void turnRow(long[] row, long[] by, int column) {
            if (over == 0) {
                return;
            }
            long pivot = by[column];
            long times = row[column];
            for (int j = 0; j <= width; j++) {
                if (j != column) {
                    row[j] = (row[j] * pivot - times * by[j]) / over;
                }
            }
            row[column] = -times;
        }

        // Whether there is a RULE for a set with a TOTAL: by what the households of it pay then.
        boolean weigh(int set) {
            Arrays.fill(weights, 0);
            for (int i = 0; i < HOUSES; i++) {
                if (isOf(set, i)) {
                    weights[i] = weightBy(street.tariff.rule, i);
                    if (weights[i] == NONE) {
                        return false;
                    }
                }
            }
            if (weightOf(set) == 0) {
                Arrays.fill(weights, 1);
            }
            return true;
        }

        private int weightBy(int rule, int house) {
            if (rule == 0) {
                return street.wantsThatCount(house);
            }
            return rule == 1 ? groups.costs[1 << house] : 1;
        }

        long weightOf(int set) {
            long all = 0;
            for (int i = 0; i < HOUSES; i++) {
                if (isOf(set, i)) {
                    all += weights[i];
                }
            }
            return all;
        }

        int firstToLeave(int set) {
            long all = weightOf(set);
            for (int sub = 1; sub <= set; sub++) {
                if ((sub & ~set) == 0 && groups.costs[sub] != NONE
                        && groups.totals[set] * weightOf(sub) > groups.costs[sub] * all) {
                    return sub;
                }
            }
            return NONE;
        }
    }

    // What a set may want in month 0, by DOUBTS of its households.
    private static final class Chances {
        private static final int WIDE = HOUSES * SACKS + 1;

        private final Street street;
        // Of all chances those by which so many sacks are wanted together.
        private final long[] odds = new long[WIDE];
        private final long[] before = new long[WIDE];
        long all;

        Chances(Street street) {
            this.street = street;
        }

        void spread(int set) {
            Arrays.fill(odds, 0);
            odds[0] = 1;
            all = 1;
            for (int i = 0; i < HOUSES; i++) {
                if (isOf(set, i)) {
                    spreadBy(i);
                }
            }
        }

        private void spreadBy(int house) {
            System.arraycopy(odds, 0, before, 0, WIDE);
            Arrays.fill(odds, 0);
            int many = street.doubts[house];
            if (many == 0) {
                add(street.wants[house * MONTHS], 1);
                return;
            }
            int sum = 0;
            for (int i = 0; i < many; i++) {
                int at = house * DOUBTS + i;
                add(street.doubtSacks[at], street.doubtChances[at]);
                sum += street.doubtChances[at];
            }
            all *= sum;
        }

        private void add(int sacks, int chance) {
            for (int i = 0; i + sacks < WIDE; i++) {
                odds[i + sacks] += before[i] * chance;
            }
        }

        // RISK, times all chances.
        long riskOf(int q, int cost) {
            long risk = all * cost;
            for (int i = 0; i < WIDE; i++) {
                int each = i > q ? (i - q) * street.tariff.late : (q - i) * street.tariff.keep;
                risk += odds[i] * each;
            }
            return risk;
        }
    }

    // A SELLER who makes the steps for a set.
    private static final class Seller {
        private final Street street;
        private final Tariff tariff = new Tariff();
        private final Prices prices;
        private final Plans plans;
        private final Groups groups;
        // What the latest search was for; the set is 0 if its answers are no longer good.
        private int set;
        private int price;
        private int worth;
        int from;
        int each;
        int most;
        int plain;

        Seller(Street street) {
            this.street = street;
            prices = new Prices(tariff);
            plans = new Plans(street, tariff, prices);
            groups = new Groups(plans);
        }

        void forget() {
            set = 0;
        }

        void seek(int set, int price, int worth) {
            if (this.set == set && this.price == price && this.worth == worth) {
                return;
            }
            this.set = set;
            this.price = price;
            this.worth = worth;
            tariff.copyFrom(street.tariff);
            from = NONE;
            each = NONE;
            most = NO_COINS;
            tariff.steps = 0;
            tariff.addStep(1, price);
            plain = gain();
            // By a step a set spends no more than by p alone, and buys no less, so that none gains more than p alone:
            // the first one that gains as much is MOST.
            for (int n = 2; n <= 12 && most < plain; n++) {
                for (int r = 1; r < price && most < plain; r++) {
                    tariff.steps = 1;
                    tariff.addStep(n, r);
                    keepIfMore(n, r, gain());
                }
            }
        }

        private void keepIfMore(int n, int r, int gain) {
            if (gain > most) {
                from = n;
                each = r;
                most = gain;
            }
        }

        private int gain() {
            prices.forget();
            plans.forgetAll();
            if (!groups.reckon(set)) {
                return NO_COINS;
            }
            return groups.totals[set] - worth * groups.sacksOf(set);
        }
    }

    private static final class Trays {
        static final int WIDE = 40;

        // How many numbers a tray has; NONE if it is MISSING.
        final int[] sizes = new int[TRAYS];
        private final int[] sorts = new int[TRAYS];
        private final long[] numbers = new long[TRAYS * WIDE];
        private final long[] covered = new long[HOUSES];

        Trays() {
            Arrays.fill(sizes, NONE);
        }

        void lay(int tray, int sort, int many) {
            sizes[tray] = many;
            sorts[tray] = sort;
            for (int i = 0; i < WIDE; i++) {
                numbers[tray * WIDE + i] = 0;
            }
        }

        long at(int tray, int place) {
            return numbers[tray * WIDE + place];
        }

        long put(int tray, int place, long v) {
            long cut = v;
            if (sorts[tray] == 0) {
                cut = (byte) v;
            } else if (sorts[tray] == 1) {
                cut = (short) v;
            } else if (sorts[tray] == 2) {
                cut = (int) v;
            }
            numbers[tray * WIDE + place] = cut;
            return cut;
        }

        // Whether the tray proves that no parting of a set with a TOTAL holds.
        boolean proves(int tray, int set, int d, Groups groups) {
            int many = sizes[tray];
            if (many == NONE || many % 2 != 0) {
                return false;
            }
            Arrays.fill(covered, 0);
            long spent = 0;
            for (int i = 0; i < many; i += 2) {
                long sub = at(tray, i);
                long number = at(tray, i + 1);
                if (sub < 1 || sub > set || (sub & ~set) != 0 || number < 0 || number > MOST_COINS) {
                    return false;
                }
                int cost = groups.costs[(int) sub];
                if (cost == NONE) {
                    return false;
                }
                spent += cost * number;
                cover((int) sub, number);
            }
            return isCovered(set, d) && spent < (long) groups.totals[set] * d;
        }

        private void cover(int set, long number) {
            for (int i = 0; i < HOUSES; i++) {
                if (isOf(set, i)) {
                    covered[i] += number;
                }
            }
        }

        private boolean isCovered(int set, int d) {
            for (int i = 0; i < HOUSES; i++) {
                if (isOf(set, i) && covered[i] < d) {
                    return false;
                }
            }
            return true;
        }
    }
}
