/** Promise 7: the bound, 0 .. 9801, times n; the list is gone with each. */
public final class Promise07BoundTest {
    public static void main(String[] args) {
        whatItWas();
        tooLowOrTooHigh();
        theListIsGone();
        noSumAtAll();
        justTheBound();
        theGreatestSum();
        timesEachPairsN();
        theRestStays();
        Checks.end("promise 7");
    }

    private static void whatItWas() {
        EdgeJoins x = new EdgeJoins();
        Checks.due("7 at first", x.bound(9801), 100);
        Checks.due("7 the highest", x.bound(9800), 9801);
        Checks.due("7 beside the highest", x.bound(0), 9800);
        Checks.due("7 the lowest", x.bound(1), 0);
        Checks.due("7 beside the lowest", x.bound(1), 1);
        Checks.due("7 to the same", x.bound(1), 1);
    }

    private static void tooLowOrTooHigh() {
        for (Situation situation : Situation.values()) {
            for (int v : new int[] {-1, 9802, -2, 9803, 10000, -9801, Integer.MIN_VALUE, Integer.MAX_VALUE}) {
                Checks.refused("7 bound " + v + ", " + situation, Checks.ARGUMENT, situation, x -> x.bound(v));
            }
            for (int v : new int[] {0, 9801}) {
                EdgeJoins x = situation.get();
                x.bound(v);
                Checks.due("7 bound " + v + ", " + situation, x.bound(3), v);
            }
        }
    }

    private static void theListIsGone() {
        for (int v : new int[] {0, 100, 9801}) {
            EdgeJoins x = Situation.A_LIST.get();
            Checks.due("7 the list ahead of it", x.count(2), 8);
            x.bound(v);
            Checks.due("7 the list is gone", x.count(2), 0);
            Checks.refused("7 the list is gone", Checks.INDEX, x, y -> y.pair(0, 0));
            Checks.refused("7 the list is gone", Checks.INDEX, x, y -> y.join(0));
        }
    }

    /** Two squares with sides of 2; each side of the first has these heights, the second has none. */
    private static int listedWith(int bound, int first, int second) {
        EdgeJoins x = Sherds.allClosed(Sherds.SQUARE_2, Sherds.SQUARE_2);
        Sherds.heights(x, 0, first, second, first, second, first, second, first, second);
        x.least(2);
        x.bound(bound);
        return x.run();
    }

    private static void noSumAtAll() {
        Checks.due("7 no sum, bound 0", listedWith(0, 0, 0), 16);
        Checks.due("7 sum 1, bound 0", listedWith(0, 0, 1), 0);
        Checks.due("7 sum 1 in 2 steps, bound 1", listedWith(1, 1, 0), 16);
    }

    private static void justTheBound() {
        Checks.due("7 25 + 25 is 25 * 2", listedWith(25, 5, 5), 16);
        Checks.due("7 25 + 25 is above 24 * 2", listedWith(24, 5, 5), 0);
        Checks.due("7 9 + 16 is above 12 * 2", listedWith(12, 3, 4), 0);
        Checks.due("7 9 + 16 is not above 13 * 2", listedWith(13, 3, 4), 16);
        Checks.due("7 49 + 1 is 25 * 2", listedWith(25, 7, 1), 16);
        // 51 is no sum of two squares; 26 * 2 = 52 = 36 + 16 and 53 = 49 + 4.
        Checks.due("7 36 + 16 is 26 * 2", listedWith(26, 6, 4), 16);
        Checks.due("7 49 + 4 is one above 26 * 2", listedWith(26, 7, 2), 0);
    }

    private static void theGreatestSum() {
        Checks.due("7 the greatest sum, the highest bound", listedWith(9801, 99, 99), 16);
        Checks.due("7 the greatest sum, one lower", listedWith(9800, 99, 99), 0);
        Checks.due("7 one less of a height, one lower", listedWith(9800, 98, 99), 16);
        EdgeJoins x = Sherds.allClosed(Sherds.UPPER_PART, Sherds.LOWER_PART);
        for (int at = 0; at < 28; at++) {
            x.height(1, at, 99);
        }
        x.least(17);
        x.bound(9801);
        Checks.due("7 the greatest sum of 17 steps", x.run(), 1);
        Checks.due("7 the greatest sum of 17 steps", x.pair(0, 5), 9801 * 17);
        x.bound(9800);
        Checks.due("7 the greatest sum of 17 steps, one lower", x.run(), 0);
    }

    private static void timesEachPairsN() {
        // Sides of 4 with sums of 4 and sides of 2 with sums of 4, each with its like.
        EdgeJoins x = Sherds.allClosed(Sherds.rectangle(4, 2), Sherds.rectangle(4, 2));
        Sherds.heights(x, 0, 2, 0, 0, 0, 2, 0, 0, 0, 0, 2, 0, 2);
        x.least(2);
        x.bound(1);
        x.run();
        int four = Sherds.find(x, 0, 0, 1, 3);
        Checks.due("7 4 is not above 1 * 4", four >= 0, true);
        Sherds.pairIs("7 4 is not above 1 * 4", x, four, 0, 0, 1, 3, 4, 4);
        Checks.due("7 4 is above 1 * 2", Sherds.find(x, 0, 4, 1, 5), -1);
        x.bound(2);
        x.run();
        int two = Sherds.find(x, 0, 4, 1, 5);
        Checks.due("7 4 is not above 2 * 2", two >= 0, true);
        Sherds.pairIs("7 4 is not above 2 * 2", x, two, 0, 4, 1, 5, 2, 4);
    }

    private static void theRestStays() {
        EdgeJoins x = Situation.TREES.get();
        x.bound(4);
        Checks.due("7 the joins stay", x.count(3), 2);
        Sherds.placeIs("7 the trees stay", x, 2, 2, -1, 1, 1);
        Checks.due("7 the least stays", x.least(2), 2);
        Checks.due("7 the joins can be undone", x.undo(), true);
    }
}
