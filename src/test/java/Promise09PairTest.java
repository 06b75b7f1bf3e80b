/** Promise 9: what a pair of the list tells, 0 .. 5, and that there is none beside the list. */
public final class Promise09PairTest {
    private static final int[] NO_WHATS = {-1, 6, 7, -6, Integer.MIN_VALUE, Integer.MAX_VALUE};

    public static void main(String[] args) {
        allSix();
        sums();
        firstAndLast();
        noSuchPair();
        noSuchWhat();
        theListStays();
        changesNothing();
        Checks.end("promise 9");
    }

    private static void allSix() {
        EdgeJoins x = Sherds.allClosed(Sherds.SQUARE_2, Sherds.UPRIGHT);
        Sherds.heights(x, 1, 0, 1, 2, 3, 4, 5);
        x.least(2);
        x.run();
        // Steps 2, 1 of the upright: 4 + 1; steps 5, 4: 25 + 16.
        for (int side = 0; side < 4; side++) {
            Sherds.pairIs("9 all six", x, side, 0, 2 * side, 1, 2, 2, 5);
            Sherds.pairIs("9 all six", x, 4 + side, 0, 2 * side, 1, 5, 2, 41);
        }
    }

    private static void sums() {
        EdgeJoins x = Sherds.allClosed(Sherds.SQUARE_2, Sherds.SQUARE_2);
        Sherds.heights(x, 0, 1, 2, 99, 99);
        Sherds.heights(x, 1, 5, 9, 0, 0, 99, 98);
        x.least(2);
        x.bound(9801);
        x.run();
        // k goes up along a and down along b: 1 - 9 and 2 - 5.
        Sherds.pairIs("9 the sum", x, Sherds.find(x, 0, 0, 1, 1), 0, 0, 1, 1, 2, 64 + 9);
        Sherds.pairIs("9 the greatest sum", x, Sherds.find(x, 0, 2, 1, 3), 0, 2, 1, 3, 2, 2 * 9801);
        Sherds.pairIs("9 the greatest but one", x, Sherds.find(x, 0, 4, 1, 5), 0, 4, 1, 5, 2, 9801 + 9604);
        Sherds.pairIs("9 a sum of 1", x, Sherds.find(x, 0, 2, 1, 5), 0, 2, 1, 5, 2, 1);
        Sherds.pairIs("9 no sum", x, Sherds.find(x, 0, 6, 1, 7), 0, 6, 1, 7, 2, 0);
    }

    private static void firstAndLast() {
        EdgeJoins x = Situation.SIX.get();
        Checks.due("9 the first pair's a", x.pair(0, 0), 0);
        Checks.due("9 the last pair's n", x.pair(99, 4), 3);
        Checks.due("9 the last pair's sum", x.pair(99, 5), 0);
        EdgeJoins y = Situation.TREES.get();
        Sherds.pairIs("9 the last of 72", y, 71, 2, 4, 3, 7, 2, 0);
    }

    private static void noSuchPair() {
        for (Situation situation : Situation.values()) {
            for (int k : situation.noPairs()) {
                String sentence = "9 pair " + k + ", " + situation;
                Checks.refused(sentence, Checks.INDEX, situation, x -> x.pair(k, 0));
                Checks.refused(sentence + ", what 5", Checks.INDEX, situation, x -> x.pair(k, 5));
                Checks.refused(sentence + ", no what", Checks.INDEX, situation, x -> x.pair(k, 6));
            }
        }
    }

    private static void noSuchWhat() {
        for (Situation situation : Situation.values()) {
            for (int what : NO_WHATS) {
                String sentence = "9 what " + what + ", " + situation;
                Checks.refused(sentence, Checks.INDEX, situation, x -> x.pair(0, what));
                Checks.refused(sentence, Checks.INDEX, situation, x -> x.pair(situation.told - 1, what));
            }
        }
    }

    private static void theListStays() {
        EdgeJoins x = Situation.TREES.get();
        x.join(13);
        x.undo();
        x.undo();
        x.sherd();
        x.step(4, 0);
        x.close(4);
        x.close(5);
        x.holes(0);
        Sherds.pairIs("9 the list stays at sherd, step, join, undo", x, 71, 2, 4, 3, 7, 2, 0);
        Checks.due("9 the list stays at sherd, step, join, undo", x.count(2), 72);
    }

    private static void changesNothing() {
        for (Situation situation : new Situation[] {Situation.A_LIST, Situation.TREES, Situation.SIX}) {
            Checks.changesNothing("9 a pair, " + situation, situation, x -> x.pair(situation.told - 1, 5));
        }
    }
}
