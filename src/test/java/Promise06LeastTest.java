/** Promise 6: the least n of pairs, 2 .. 20; the list is gone with each. */
public final class Promise06LeastTest {
    public static void main(String[] args) {
        whatItWas();
        tooLowOrTooHigh();
        theListIsGone();
        justAsManySteps();
        longestStretch();
        theRestStays();
        Checks.end("promise 6");
    }

    private static void whatItWas() {
        EdgeJoins x = new EdgeJoins();
        Checks.due("6 at first", x.least(2), 3);
        for (int n = 3; n <= 20; n++) {
            Checks.due("6 what it was", x.least(n), n - 1);
            Checks.due("6 to the same", x.least(n), n);
        }
        Checks.due("6 back to the lowest", x.least(2), 20);
        Checks.due("6 the lowest", x.least(20), 2);
    }

    private static void tooLowOrTooHigh() {
        for (Situation situation : Situation.values()) {
            for (int n : new int[] {1, 21, 0, -1, -2, 22, 100, Integer.MIN_VALUE, Integer.MAX_VALUE}) {
                Checks.refused("6 least " + n + ", " + situation, Checks.ARGUMENT, situation, x -> x.least(n));
            }
            for (int n : new int[] {2, 20}) {
                EdgeJoins x = situation.get();
                x.least(n);
                Checks.due("6 least " + n + ", " + situation, x.least(3), n);
            }
        }
    }

    private static void theListIsGone() {
        for (int n : new int[] {2, 3, 20}) {
            EdgeJoins x = Situation.A_LIST.get();
            Checks.due("6 the list ahead of it", x.count(2), 8);
            x.least(n);
            Checks.due("6 the list is gone", x.count(2), 0);
            Checks.refused("6 the list is gone", Checks.INDEX, x, y -> y.pair(0, 0));
            Checks.refused("6 the list is gone", Checks.INDEX, x, y -> y.join(0));
        }
    }

    private static void justAsManySteps() {
        for (int side = 2; side <= 7; side++) {
            String square = Sherds.rectangle(side, side);
            listedAt("6 sides of " + side, side, 16, square, square);
        }
        for (int side = 8; side <= 13; side++) {
            String bar = Sherds.rectangle(side, 1);
            listedAt("6 bars of " + side, side, 4, bar, bar);
        }
    }

    private static void longestStretch() {
        listedAt("6 seventeen steps", 17, 1, Sherds.UPPER_PART, Sherds.LOWER_PART);
        EdgeJoins x = Sherds.allClosed(Sherds.UPPER_PART, Sherds.LOWER_PART);
        x.least(20);
        Checks.due("6 none has 20", x.run(), 0);
    }

    /** So many pairs have just n steps, and none has more. */
    private static void listedAt(String sentence, int n, int pairs, String first, String second) {
        EdgeJoins x = Sherds.allClosed(first, second);
        x.least(n);
        Checks.due(sentence + ", that least", x.run(), pairs);
        Checks.due(sentence + ", n", x.pair(0, 4), n);
        x.least(n + 1);
        Checks.due(sentence + ", one more", x.run(), 0);
    }

    private static void theRestStays() {
        EdgeJoins x = Situation.TREES.get();
        x.least(4);
        Checks.due("6 the joins stay", x.count(3), 2);
        Sherds.placeIs("6 the trees stay", x, 2, 2, -1, 1, 1);
        Checks.due("6 the bound stays", x.bound(100), 100);
        Checks.due("6 the joins can be undone", x.undo(), true);
    }
}
