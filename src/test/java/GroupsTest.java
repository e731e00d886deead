import java.util.Random;

/** Streets in which several partings cost the same: GROUPS, and what is told by them, as all partings tell it. */
public final class GroupsTest {
    private GroupsTest() {
    }

    private final CoalStreet x = new CoalStreet();
    private final Plain y = new Plain();

    public static void main(String[] args) {
        int many = args.length > 0 ? Integer.parseInt(args[0]) : 4000;
        for (int seed = 1; seed <= many; seed++) {
            // Streets of seven have 877 partings: a few are enough.
            int n = seed % 40 == 0 ? 7 : seed % 20 == 0 ? 6 : 4 + seed % 2;
            new GroupsTest().look(new Random(seed), seed, n);
        }
        Check.end();
    }

    private void look(Random dice, int seed, int n) {
        boolean cellars = dice.nextBoolean();
        for (int i = 0; i < n; i++) {
            int room = cellars ? dice.nextInt(4) : 0;
            x.house(room);
            y.house(room);
            int sacks = dice.nextInt(4);
            x.want(i, 0, sacks);
            y.want(i, 0, sacks);
        }
        bonds(dice, n);
        tell(text(dice));
        int all = (1 << n) - 1;
        compare("seed " + seed, all, n);
        compare("seed " + seed, all ^ 1 << dice.nextInt(n), n);
        compare("seed " + seed, 1 + dice.nextInt(all), n);
        if (seed % 4 == 0) {
            compareSeller("seed " + seed, dice, 15);
        }
    }

    /**
     * Few groups that may buy: with many the first of like partings is soon all in one. In half of the streets they
     * are round one that all trust, with a high number: then first groups part late, others of them early.
     */
    private void bonds(Random dice, int n) {
        int trust = 1 + dice.nextInt(4);
        int bars = dice.nextInt(4);
        int hub = dice.nextBoolean() ? n - 1 - dice.nextInt(2) : -1;
        for (int i = 0; i < n; i++) {
            for (int j = 0; j < n; j++) {
                if (i != j && dice.nextInt(10) < (j == hub ? 9 : trust)) {
                    x.trust(i, j, true);
                    y.trust(i, j, true);
                }
                if (i < j && dice.nextInt(10) < bars) {
                    x.bar(i, j);
                    y.bar(i, j);
                }
            }
        }
    }

    private void tell(String text) {
        Streets.tell(x, text);
        for (int at = 0; at < text.length(); at += 20) {
            y.feed(Streets.four(text, at), Streets.four(text, at + 4), Streets.four(text, at + 8),
                    Streets.four(text, at + 12), Streets.four(text, at + 16));
        }
        y.text(text.length());
    }

    /** Mostly a price for which it is all the same who buys together, but for a few groups. */
    private static String text(Random dice) {
        StringBuilder t = new StringBuilder("step 1 10;");
        if (dice.nextInt(3) > 0) {
            t.append("step ").append(2 + dice.nextInt(5)).append(' ').append(7 + dice.nextInt(3)).append(';');
        }
        if (dice.nextInt(5) == 0) {
            t.append("cart ").append(2 + dice.nextInt(3)).append(" 2;");
        }
        if (dice.nextInt(6) == 0) {
            t.append("gather ").append(1 + dice.nextInt(3)).append(';');
        }
        return t.toString();
    }

    private void compare(String seed, int set, int n) {
        String what = seed + ", set " + set + ": ";
        Check.due(what + "least", y.least(set), () -> x.least(set));
        for (int i = -1; i < n; i++) {
            int house = i;
            Check.due(what + "group of " + i, y.group(set, i), () -> x.group(set, house));
            if (i >= 0 && (set >> i & 1) == 0) {
                Check.due(what + "come " + i, y.come(set, i), () -> x.come(set, house));
            }
        }
    }

    private void compareSeller(String seed, Random dice, int set) {
        int p = 2 + dice.nextInt(3);
        int k = dice.nextInt(8);
        for (int what = 0; what < 4; what++) {
            int which = what;
            Check.due(seed + ", seller of " + p + ", " + k + ", " + what, y.seller(set, p, k, what),
                    () -> x.seller(set, p, k, which));
        }
    }
}
