/** Edges that several tests use, and how to make sherds of them. */
final class Sherds {
    static final String SQUARE = "0123";
    static final String SQUARE_2 = "00112233";
    static final String SQUARE_3 = "000111222333";
    // Two cells, one below the other.
    static final String UPRIGHT = "011233";
    // Three cells wide, two high, without the cell in the middle of its upper row.
    static final String CUP = "010301122233";
    // Three cells in a row, and one below the first of them.
    static final String HOOK = "0001221233";
    // The parts of a rectangle of 6 * 5 cells that is cut along 17 steps; each has 28 steps.
    static final String UPPER_PART = "0000011111232222300003322223";
    static final String LOWER_PART = "2222233333010000112222100001";
    // 28 steps that don't end where they began.
    static final String STAIRS_28 = "01".repeat(14);

    private Sherds() {
    }

    static String side(int steps, int d) {
        return Integer.toString(d).repeat(steps);
    }

    static String rectangle(int width, int height) {
        return side(width, 0) + side(height, 1) + side(width, 2) + side(height, 3);
    }

    /** The same edge, turned by quarters. */
    static String turned(String steps, int quarters) {
        StringBuilder edge = new StringBuilder();
        for (int at = 0; at < steps.length(); at++) {
            edge.append((steps.charAt(at) - '0' + quarters) & 3);
        }
        return edge.toString();
    }

    /** The same edge, told from another of its steps. */
    static String from(int first, String steps) {
        return steps.substring(first) + steps.substring(0, first);
    }

    /** The same edge, gone round the other way. */
    static String backwards(String steps) {
        return turned(new StringBuilder(steps).reverse().toString(), 2);
    }

    static int open(EdgeJoins x, String steps) {
        int s = x.sherd();
        extend(x, s, steps);
        return s;
    }

    static void extend(EdgeJoins x, int s, String steps) {
        for (int at = 0; at < steps.length(); at++) {
            x.step(s, steps.charAt(at) - '0');
        }
    }

    static int closed(EdgeJoins x, String steps) {
        int s = open(x, steps);
        if (x.close(s) == 0) {
            throw new AssertionError("the test's edge can't be closed: " + steps);
        }
        return s;
    }

    static EdgeJoins allClosed(String... edges) {
        EdgeJoins x = new EdgeJoins();
        for (String edge : edges) {
            closed(x, edge);
        }
        return x;
    }

    /** The same, with a list of stretches of 2 steps and more. */
    static EdgeJoins listed(String... edges) {
        EdgeJoins x = allClosed(edges);
        x.least(2);
        x.run();
        return x;
    }

    static void heights(EdgeJoins x, int sherd, int... v) {
        for (int at = 0; at < v.length; at++) {
            x.height(sherd, at, v[at]);
        }
    }

    /** The pair's number in the list, or -1. */
    static int find(EdgeJoins x, int a, int i, int b, int j) {
        int told = x.count(2);
        for (int k = 0; k < told; k++) {
            if (x.pair(k, 0) == a && x.pair(k, 1) == i && x.pair(k, 2) == b && x.pair(k, 3) == j) {
                return k;
            }
        }
        return -1;
    }

    static int join(EdgeJoins x, int a, int i, int b, int j) {
        return x.join(find(x, a, i, b, j));
    }

    static void pairIs(String sentence, EdgeJoins x, int k, int... want) {
        for (int what = 0; what < want.length; what++) {
            Checks.due(sentence + ", pair " + k + ", what " + what, x.pair(k, what), want[what]);
        }
    }

    static void placeIs(String sentence, EdgeJoins x, int sherd, int... want) {
        for (int what = 0; what < want.length; what++) {
            Checks.due(sentence + ", sherd " + sherd + ", what " + what, x.place(sherd, what), want[what]);
        }
    }
}
