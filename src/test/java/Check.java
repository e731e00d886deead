/** What every test here uses: counts answers that aren't as due, and ends with 1 if there was one. */
final class Check {
    interface Call {
        Object go();
    }

    private static int wrong = 0;
    private static int seen = 0;

    private Check() {
    }

    /** What a call answers: a number (a boolean counts 1 or 0), "nothing" or "throws X". */
    static String answer(Call call) {
        try {
            Object got = call.go();
            if (got == null) {
                return "nothing";
            }
            if (got instanceof Boolean) {
                return (Boolean) got ? "1" : "0";
            }
            return got.toString();
        } catch (RuntimeException e) {
            return "throws " + e.getClass().getSimpleName();
        }
    }

    static void due(String what, Object want, Call call) {
        String due = want instanceof Boolean ? ((Boolean) want ? "1" : "0") : want.toString();
        same(what, due, answer(call));
    }

    static void same(String what, Object want, Object got) {
        seen++;
        if (!want.equals(got)) {
            wrong++;
            if (wrong <= 40) {
                System.out.println(what + " answered " + got + ", due is " + want);
            }
        }
    }

    static int wrongSoFar() {
        return wrong;
    }

    static void end() {
        System.out.println(seen + " answers looked at, " + wrong + " not as due");
        if (wrong != 0 || seen == 0) {
            System.exit(1);
        }
    }
}
