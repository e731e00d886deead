/** Streets and texts that the tests share. */
final class Streets {
    private Streets() {
    }

    /** Feeds a text, with blanks behind it up to twenty bytes' end, and reads it: what text() answers. */
    static int tell(CoalStreet x, String text) {
        feed(x, text);
        return x.text(text.length());
    }

    static int feed(CoalStreet x, String text) {
        int has = x.count(4);
        for (int at = 0; at < text.length(); at += 20) {
            has = x.feed(four(text, at), four(text, at + 4), four(text, at + 8), four(text, at + 12),
                    four(text, at + 16));
        }
        return has;
    }

    static int four(String text, int at) {
        int v = 0;
        for (int i = at; i < at + 4; i++) {
            v = v << 8 | (i < text.length() ? text.charAt(i) & 255 : ' ');
        }
        return v;
    }

    /** So many households without cellars who want so many sacks in month 0 and all trust one another. */
    static CoalStreet trusting(int... wants) {
        CoalStreet x = new CoalStreet();
        for (int i = 0; i < wants.length; i++) {
            x.house(0);
            x.want(i, 0, wants[i]);
        }
        for (int i = 0; i < wants.length; i++) {
            for (int j = 0; j < wants.length; j++) {
                if (i != j) {
                    x.trust(i, j, true);
                }
            }
        }
        return x;
    }

    /** All of the state that calls can tell without changing it in the end (trays aside). */
    static String print(CoalStreet x) {
        StringBuilder all = new StringBuilder();
        for (int i = 0; i < 10; i++) {
            all.append(x.count(i)).append(' ');
        }
        all.append(x.fault(0)).append(' ').append(x.fault(1)).append(' ');
        all.append(x.upper()).append('/').append(x.lower()).append(' ');
        int d = x.by(1);
        x.by(d);
        all.append(d).append(" : ");
        int n = x.count(0);
        for (int i = 0; i < n; i++) {
            int v = x.cellar(i, 0);
            x.cellar(i, v);
            all.append(v).append(' ');
            v = x.pay(i, 0);
            x.pay(i, v);
            all.append(v).append(' ');
            for (int m = 0; m < 6; m++) {
                v = x.want(i, m, 0);
                x.want(i, m, v);
                all.append(v);
            }
            for (int j = 0; j < n; j++) {
                if (i != j) {
                    boolean is = x.trust(i, j, true);
                    x.trust(i, j, is);
                    all.append(is ? '+' : '-');
                }
            }
            all.append(" ; ");
        }
        for (int set = 1; set < 1 << n; set++) {
            all.append(x.cost(set)).append(',').append(x.least(set)).append(' ');
        }
        for (int q = 0; q < 30; q++) {
            all.append(x.buys(q, 0)).append(' ');
        }
        return all.toString();
    }
}
