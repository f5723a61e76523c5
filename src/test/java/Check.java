/** Counts the answers that are not as due, and tells each of them. */
final class Check {
    private int wrong;
    private int made;

    void due(String what, long got, long want) {
        made++;
        if (got != want) {
            wrong++;
            System.out.println(what + " answered " + got + ", due is " + want);
        }
    }

    void that(String what, boolean right) {
        made++;
        if (!right) {
            wrong++;
            System.out.println(what + " is not so");
        }
    }

    /** Ends the test: exit code 1 if an answer was not as due. */
    void end(String name) {
        System.out.println(name + ": " + (wrong == 0 ? made + " answers are as due" : wrong + " answers are not as due"));
        if (wrong != 0) {
            System.exit(1);
        }
    }

    static void feed(AlreadyJudged x, String text) {
        for (int i = 0; i < text.length(); i += 4) {
            int n = Math.min(4, text.length() - i);
            int v = 0;
            for (int k = 0; k < n; k++) {
                v |= (text.charAt(i + k) & 255) << 8 * k;
            }
            x.feed(n, v);
        }
    }

    static int suit(AlreadyJudged x, String text) {
        feed(x, text);
        return x.suit();
    }

    static int law(AlreadyJudged x, int ul, String text) {
        feed(x, text);
        return x.law(ul);
    }

    /** A new object with CLAIMS of person 0 against person 1, of FACTS 0, 1, .. and PLEA 0. */
    static AlreadyJudged withClaims(int n) {
        AlreadyJudged x = new AlreadyJudged();
        for (int i = 0; i < n; i++) {
            x.claim(1, i % 16, 0);
        }
        return x;
    }
}
