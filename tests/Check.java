/** What the tests have in common: a call's answer against the one that is due. */
final class Check {
    static final long NO = PointShares.NO;
    private static int wrong = 0;
    private static int asked = 0;
    private static String promise = "";

    /** The promise that what follows is about. */
    static void promise(int number, String name) {
        promise = "promise " + number + " (" + name + ")";
    }

    static void about(String what) {
        promise = what;
    }

    static void due(String call, long got, long want) {
        asked++;
        if (got != want) {
            wrong++;
            if (wrong <= 40) {
                System.out.println(promise + ": " + call + " answered " + got + ", due is " + want);
            }
        }
    }

    static int wrong() {
        return wrong;
    }

    /** Fails if no answer was looked at, too. */
    static void end(String test) {
        System.out.println(test + ": " + asked + " answers, " + wrong + " wrong");
        if (wrong != 0 || asked == 0) {
            System.exit(1);
        }
    }

    /** A set-up of n parties; a row of points for each thing, party by party. */
    static PointShares setUp(int n, int[]... things) {
        PointShares x = new PointShares();
        due("parties(" + n + ")", x.parties(n), 2);
        for (int t = 0; t < things.length; t++) {
            due("thing()", x.thing(), t);
            for (int p = 0; p < n; p++) {
                due("point(" + p + ", " + t + ", " + things[t][p] + ")", x.point(p, t, things[t][p]), 0);
            }
        }
        return x;
    }

    static int[] row(int... points) {
        return points;
    }

    static int feed(PointShares x, String text) {
        int answer = 0;
        for (int k = 0; k < text.length(); k++) {
            answer = x.feed(text.charAt(k));
        }
        return answer;
    }

    static void read(PointShares x, String text, int want) {
        feed(x, text);
        due("read() of '" + text + "'", x.read(), want);
        due("count(3) behind it", x.count(3), 0);
    }

    static void fraction(String call, long up, long low, long wantUp, long wantLow) {
        due(call + " above the line", up, wantUp);
        due(call + " below the line", low, wantLow);
    }
}
