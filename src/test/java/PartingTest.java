import java.util.Random;

/** Partings of wild streets: MISSING, SHARES and FIRST ROW as all corners of what can be paid tell them. */
public final class PartingTest {
    private PartingTest() {
    }

    private static int holding = 0;
    private static int broken = 0;
    private static int least = 0;

    public static void main(String[] args) {
        int many = args.length > 0 ? Integer.parseInt(args[0]) : 2400;
        for (int seed = 1; seed <= many; seed++) {
            look(seed, seed % 30 == 0 ? 5 : seed % 10 == 0 ? 2 : 3 + seed % 2);
        }
        System.out.println(holding + " of " + many + " hold, " + broken + " fractions aren't whole numbers, "
                + least + " of them with a lower number above 2");
        Check.same("enough of all kinds", true, holding > many / 5 && holding < many * 9 / 10 && broken > many / 5
                && least > 10);
        Check.end();
    }

    private static void look(int seed, int n) {
        Random dice = new Random(seed);
        CoalStreet x = new CoalStreet();
        Plain y = new Plain();
        // Half of the streets want much in few months and have great carts: then there is often no parting that holds.
        boolean cart = dice.nextBoolean();
        int months = 1 + dice.nextInt(cart ? 2 : 6);
        int most = 1 + dice.nextInt(3);
        for (int i = 0; i < n; i++) {
            x.house(0);
            y.house(0);
            for (int m = 0; m < months; m++) {
                int sacks = cart ? 1 + dice.nextInt(most) : dice.nextInt(most + 1);
                x.want(i, m, sacks);
                y.want(i, m, sacks);
            }
        }
        int trust = dice.nextInt(3) == 0 ? 6 : 10;
        for (int i = 0; i < n; i++) {
            for (int j = 0; j < n; j++) {
                if (i != j && dice.nextInt(10) < trust) {
                    x.trust(i, j, true);
                    y.trust(i, j, true);
                }
            }
        }
        String text = text(dice, months, cart);
        Streets.tell(x, text);
        for (int at = 0; at < text.length(); at += 20) {
            y.feed(Streets.four(text, at), Streets.four(text, at + 4), Streets.four(text, at + 8),
                    Streets.four(text, at + 12), Streets.four(text, at + 16));
        }
        y.text(text.length());
        compare("seed " + seed + " (" + text + ")", x, y, n);
    }

    private static String text(Random dice, int months, boolean cart) {
        StringBuilder t = new StringBuilder();
        t.append("months ").append(months).append(";step 1 ").append(5 + dice.nextInt(20)).append(';');
        int from = 1;
        int steps = dice.nextInt(4);
        for (int i = 0; i < steps; i++) {
            from += 1 + dice.nextInt(months);
            t.append("step ").append(from).append(' ').append(1 + dice.nextInt(20)).append(';');
        }
        if (cart) {
            t.append("cart ").append(2 + dice.nextInt(5)).append(' ').append(20 + dice.nextInt(60)).append(';');
        }
        int carts = cart ? dice.nextInt(2) : dice.nextInt(3);
        for (int i = 0; i < carts; i++) {
            t.append("cart ").append(1 + dice.nextInt(5)).append(' ').append(dice.nextInt(30)).append(';');
        }
        if (dice.nextInt(2) > 0) {
            t.append("gather ").append(dice.nextInt(8)).append(';');
        }
        return t.toString();
    }

    private static Object fraction(long upper, long lower) {
        return upper + "/" + lower;
    }

    private static void compare(String what, CoalStreet x, Plain y, int n) {
        int set = (1 << n) - 1;
        String holds = Check.answer(() -> y.can(set));
        Check.due(what + " can", holds, () -> x.can(set));
        Check.same(what + " missing", fraction(y.upper(), y.lower()), fraction(x.upper(), x.lower()));
        holding += holds.equals("1") ? 1 : 0;
        note(y.lower());
        for (int i = 0; i < n; i++) {
            for (int kind = 0; kind < 3; kind++) {
                int house = i;
                int which = kind;
                String due = Check.answer(() -> of(y, set, house, which));
                Check.due(what + " kind " + kind + " of " + i, due, () -> of(x, set, house, which));
                Check.same(what + " kind " + kind + " of " + i, fraction(y.upper(), y.lower()),
                        fraction(x.upper(), x.lower()));
                note(y.lower());
            }
        }
    }

    private static void note(long lower) {
        broken += lower > 1 ? 1 : 0;
        least += lower > 2 ? 1 : 0;
    }

    private static Object of(CoalStreet x, int set, int house, int kind) {
        if (kind < 2) {
            x.share(set, house, kind == 1);
        } else {
            x.row(set, house);
        }
        return null;
    }

    private static Object of(Plain y, int set, int house, int kind) {
        if (kind < 2) {
            y.share(set, house, kind == 1);
        } else {
            y.row(set, house);
        }
        return null;
    }
}
