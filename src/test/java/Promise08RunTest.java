/** Promise 8: which pairs are listed, how they are ranked, and that the first 100 are told. */
public final class Promise08RunTest {
    // Sides of 2, 4, 2 and 4 steps, the shorter ones first.
    private static final String SHORT_SIDE_FIRST = Sherds.from(4, Sherds.rectangle(4, 2));

    public static void main(String[] args) {
        nothingToList();
        onlyClosedOnes();
        theLowerOneFirst();
        roundTheEdgeOfA();
        roundTheEdgeOfB();
        notFromTheMiddle();
        partOfASide();
        greatestN();
        oneNumberOfQuarters();
        allButOneStep();
        toldUpToAHundred();
        theWorstAreNotTold();
        lesserQuotientFirst();
        quotientsAreNotRounded();
        greaterNFirst();
        lesserNumbersFirst();
        allRanks();
        again();
        treesDoNotMatter();
        Checks.end("promise 8");
    }

    private static void nothingToList() {
        Checks.due("8 no sherds", new EdgeJoins().run(), 0);
        Checks.due("8 one sherd, not with itself", Sherds.listed(Sherds.UPPER_PART).run(), 0);
        EdgeJoins x = Sherds.listed(Sherds.SQUARE, Sherds.SQUARE);
        Checks.due("8 n 1 alone", x.count(2), 0);
        Checks.refused("8 an empty list", Checks.INDEX, x, y -> y.pair(0, 0));
    }

    private static void onlyClosedOnes() {
        EdgeJoins x = new EdgeJoins();
        x.least(2);
        Sherds.open(x, Sherds.SQUARE_2);
        Sherds.open(x, Sherds.SQUARE_2);
        x.sherd();
        Sherds.open(x, Sherds.SQUARE_2);
        Checks.due("8 all open", x.run(), 0);
        x.close(1);
        Checks.due("8 one closed", x.run(), 0);
        x.close(3);
        Checks.due("8 two closed", x.run(), 16);
        Sherds.pairIs("8 two closed", x, 0, 1, 0, 3, 1, 2, 0);
        x.close(0);
        Checks.due("8 three closed", x.run(), 48);
    }

    private static void theLowerOneFirst() {
        EdgeJoins x = Sherds.listed(Sherds.CUP, Sherds.UPRIGHT);
        EdgeJoins y = Sherds.listed(Sherds.UPRIGHT, Sherds.CUP);
        Checks.due("8 as many either way", x.run(), y.run());
        int told = x.count(2);
        for (int k = 0; k < told; k++) {
            Checks.due("8 a is the lower one", x.pair(k, 0), 0);
            Checks.due("8 b is the other one", x.pair(k, 2), 1);
        }
        Sherds.pairIs("8 in the cup", x, 0, 0, 1, 1, 1, 3, 0);
        Sherds.pairIs("8 with the cup", y, 0, 0, 2, 1, 3, 3, 0);
    }

    private static void roundTheEdgeOfA() {
        // The square's upper side is its last step and its first one; the heights tell which steps are counted.
        EdgeJoins x = Sherds.allClosed(Sherds.from(1, Sherds.SQUARE_2), Sherds.UPRIGHT);
        x.height(0, 7, 10);
        x.height(0, 0, 20);
        x.height(1, 2, 13);
        x.height(1, 1, 24);
        x.least(2);
        Checks.due("8 round a's edge", x.run() > 0, true);
        int k = Sherds.find(x, 0, 7, 1, 2);
        Checks.due("8 round a's edge", k >= 0, true);
        Sherds.pairIs("8 round a's edge", x, k, 0, 7, 1, 2, 2, 25);
    }

    private static void roundTheEdgeOfB() {
        // The upright's right side is its last step and its first one.
        EdgeJoins x = Sherds.allClosed(Sherds.from(1, Sherds.SQUARE_2), Sherds.from(2, Sherds.UPRIGHT));
        x.height(0, 7, 10);
        x.height(0, 0, 20);
        x.height(1, 0, 13);
        x.height(1, 5, 24);
        x.least(2);
        x.bound(9801);
        Checks.due("8 round both edges", x.run(), 8);
        int k = Sherds.find(x, 0, 7, 1, 0);
        Checks.due("8 round both edges", k >= 0, true);
        Sherds.pairIs("8 round both edges", x, k, 0, 7, 1, 0, 2, 25);
    }

    private static void notFromTheMiddle() {
        EdgeJoins x = Sherds.listed(Sherds.SQUARE_3, Sherds.SQUARE_3);
        Checks.due("8 from the first step", Sherds.find(x, 0, 0, 1, 2) >= 0, true);
        Checks.due("8 from the second step", Sherds.find(x, 0, 1, 1, 1), -1);
        EdgeJoins y = Sherds.listed(Sherds.from(1, Sherds.SQUARE_3), Sherds.SQUARE_3);
        Checks.due("8 from the last step on", Sherds.find(y, 0, 11, 1, 2) >= 0, true);
        Checks.due("8 the step before i is the last one", Sherds.find(y, 0, 0, 1, 1), -1);
        EdgeJoins z = Sherds.listed(Sherds.SQUARE_3, Sherds.from(2, Sherds.SQUARE_3));
        Checks.due("8 from b's first step on", Sherds.find(z, 0, 0, 1, 0) >= 0, true);
        Checks.due("8 the step before j is the first one", Sherds.find(z, 0, 1, 1, 11), -1);
    }

    private static void partOfASide() {
        EdgeJoins x = Sherds.listed(Sherds.rectangle(4, 1), Sherds.SQUARE_2);
        Checks.due("8 a side of 2 in three places at one of 4", x.run(), 24);
        for (int i = 0; i <= 2; i++) {
            int k = Sherds.find(x, 0, i, 1, 1);
            Checks.due("8 at i " + i, k >= 0, true);
            Sherds.pairIs("8 at i " + i, x, k, 0, i, 1, 1, 2, 0);
        }
        Checks.due("8 beyond the side's end", Sherds.find(x, 0, 3, 1, 1), -1);
        EdgeJoins y = Sherds.listed(Sherds.SQUARE_2, Sherds.rectangle(4, 1));
        Checks.due("8 a side of 4 in three places at one of 2", y.run(), 24);
        for (int j = 1; j <= 3; j++) {
            Checks.due("8 at j " + j, Sherds.find(y, 0, 0, 1, j) >= 0, true);
        }
        Checks.due("8 beyond b's side's end", Sherds.find(y, 0, 0, 1, 0), -1);
    }

    private static void greatestN() {
        EdgeJoins x = Sherds.allClosed(Sherds.UPPER_PART, Sherds.LOWER_PART);
        x.least(17);
        Checks.due("8 one pair along the whole cut", x.run(), 1);
        // The cut is the end of both edges.
        Sherds.pairIs("8 along the whole cut", x, 0, 0, 11, 1, 27, 17, 0);
        Checks.due("8 it joins", x.join(0), 0);
        Checks.due("8 no hole between", x.holes(0), 0);
    }

    private static void oneNumberOfQuarters() {
        // Both corners turn right: behind a side the steps are contrary by other quarters alone.
        EdgeJoins x = Sherds.listed(Sherds.SQUARE_2, Sherds.SQUARE_2);
        Checks.due("8 each side at each side", x.run(), 16);
        for (int k = 0; k < 16; k++) {
            Checks.due("8 not round the corner", x.pair(k, 4), 2);
        }
        // A corner that turns left takes one that turns right.
        EdgeJoins y = Sherds.listed(Sherds.CUP, Sherds.HOOK);
        int k = Sherds.find(y, 0, 11, 1, 6);
        Checks.due("8 round a corner", k >= 0, true);
        Sherds.pairIs("8 round a corner", y, k, 0, 11, 1, 6, 2, 0);
    }

    private static void allButOneStep() {
        EdgeJoins x = Sherds.allClosed(Sherds.CUP, Sherds.SQUARE);
        Checks.due("8 all but one step of b", x.run(), 4);
        EdgeJoins y = Sherds.allClosed(Sherds.SQUARE, Sherds.CUP);
        Checks.due("8 all but one step of a", y.run(), 4);
        for (int k = 0; k < 4; k++) {
            Sherds.pairIs("8 all but one step of b", x, k, 0, 1, 1, k, 3, 0);
            Sherds.pairIs("8 all but one step of a", y, k, 0, k, 1, 3, 3, 0);
        }
        EdgeJoins z = Sherds.allClosed(Sherds.UPRIGHT, "0110330111222333");
        z.least(5);
        Checks.due("8 five of six steps", z.run(), 2);
        Sherds.pairIs("8 five of six steps", z, 0, 0, 1, 1, 5, 5, 0);
        Sherds.pairIs("8 five of six steps", z, 1, 0, 4, 1, 5, 5, 0);
        z.least(6);
        Checks.due("8 not all of six steps", z.run(), 0);
    }

    /**
     * Six squares with sides of 3 steps. Those of the first four fit, 96 pairs; each other side has its
     * own height in the middle, but where two of these are the same there is one pair more.
     */
    private static EdgeJoins withMiddles(int[] fifth, int[] sixth) {
        EdgeJoins x = Sherds.allClosed(Sherds.SQUARE_3, Sherds.SQUARE_3, Sherds.SQUARE_3, Sherds.SQUARE_3,
            Sherds.SQUARE_3, Sherds.SQUARE_3);
        for (int side = 0; side < 4; side++) {
            x.height(4, 3 * side + 1, fifth[side]);
            x.height(5, 3 * side + 1, sixth[side]);
        }
        x.bound(0);
        return x;
    }

    private static void toldUpToAHundred() {
        EdgeJoins below = withMiddles(new int[] {20, 1, 2, 3}, new int[] {20, 20, 20, 4});
        Checks.due("8 99 pairs", below.run(), 99);
        Checks.due("8 99 are told", below.count(2), 99);
        Sherds.pairIs("8 the last of 99", below, 98, 4, 0, 5, 8, 3, 0);
        Checks.refused("8 none behind the 99", Checks.INDEX, below, x -> x.pair(99, 0));
        EdgeJoins just = withMiddles(new int[] {20, 20, 1, 2}, new int[] {20, 20, 3, 4});
        Checks.due("8 100 pairs", just.run(), 100);
        Checks.due("8 100 are told", just.count(2), 100);
        Sherds.pairIs("8 the last of 100", just, 99, 4, 3, 5, 5, 3, 0);
        Checks.refused("8 none behind the 100", Checks.INDEX, just, x -> x.pair(100, 0));
        EdgeJoins above = withMiddles(new int[] {20, 20, 30, 1}, new int[] {20, 20, 30, 2});
        Checks.due("8 101 pairs", above.run(), 101);
        Checks.due("8 100 of 101 are told", above.count(2), 100);
        Sherds.pairIs("8 the last that is told", above, 99, 4, 3, 5, 5, 3, 0);
        Checks.refused("8 the 101st is not told", Checks.INDEX, above, x -> x.pair(100, 0));
        Checks.refused("8 the 101st is not joined", Checks.INDEX, above, x -> x.join(100));
    }

    private static void theWorstAreNotTold() {
        EdgeJoins x = Sherds.allClosed(Sherds.SQUARE_3, Sherds.SQUARE_3, Sherds.SQUARE_3, Sherds.SQUARE_3,
            Sherds.SQUARE_3, Sherds.SQUARE_3);
        for (int at = 0; at < 12; at++) {
            x.height(0, at, 1);
        }
        Checks.due("8 all are counted", x.run(), 240);
        Checks.due("8 100 are told", x.count(2), 100);
        // 80 pairs have a = 0 and a sum of 3; of those without a sum 64 have a = 1 and 48 have a = 2, 12 for each i.
        Sherds.pairIs("8 the first has no sum", x, 0, 1, 0, 2, 2, 3, 0);
        Sherds.pairIs("8 the 64th", x, 63, 1, 9, 5, 11, 3, 0);
        Sherds.pairIs("8 the 65th", x, 64, 2, 0, 3, 2, 3, 0);
        Sherds.pairIs("8 the 100th", x, 99, 2, 6, 5, 11, 3, 0);
    }

    private static EdgeJoins oblongs(int... heightsOfB) {
        EdgeJoins x = Sherds.allClosed(SHORT_SIDE_FIRST, SHORT_SIDE_FIRST);
        Sherds.heights(x, 1, heightsOfB);
        x.least(2);
        x.run();
        return x;
    }

    private static void isAhead(String sentence, EdgeJoins x, int[] first, int[] second) {
        int one = Sherds.find(x, first[0], first[1], first[2], first[3]);
        int other = Sherds.find(x, second[0], second[1], second[2], second[3]);
        Checks.due(sentence + ": both are listed", one >= 0 && other >= 0, true);
        Sherds.pairIs(sentence, x, one, first);
        Sherds.pairIs(sentence, x, other, second);
        Checks.due(sentence, one < other, true);
    }

    private static void lesserQuotientFirst() {
        EdgeJoins x = oblongs(1, 1, 1, 1, 1, 0);
        isAhead("8 3 / 4 ahead of 2 / 2", x, new int[] {0, 2, 1, 5, 4, 3}, new int[] {0, 0, 1, 1, 2, 2});
        EdgeJoins y = oblongs(1, 0, 1, 1, 1, 0);
        isAhead("8 1 / 2 ahead of 3 / 4", y, new int[] {0, 0, 1, 1, 2, 1}, new int[] {0, 2, 1, 5, 4, 3});
    }

    private static void quotientsAreNotRounded() {
        EdgeJoins x = Sherds.allClosed(Sherds.rectangle(4, 3), Sherds.rectangle(4, 3));
        Sherds.heights(x, 1, 11, 3, 2, 1, 8, 6, 0);
        x.run();
        isAhead("8 100 / 3 ahead of 135 / 4", x, new int[] {0, 4, 1, 6, 3, 100}, new int[] {0, 0, 1, 3, 4, 135});
        Sherds.heights(x, 1, 11, 3, 1, 1, 8, 6, 1);
        x.run();
        isAhead("8 132 / 4 ahead of 101 / 3", x, new int[] {0, 0, 1, 3, 4, 132}, new int[] {0, 4, 1, 6, 3, 101});
    }

    private static void greaterNFirst() {
        EdgeJoins x = oblongs(1, 0, 1, 1, 0, 0);
        isAhead("8 2 / 4 ahead of 1 / 2", x, new int[] {0, 2, 1, 5, 4, 2}, new int[] {0, 0, 1, 1, 2, 1});
        EdgeJoins y = oblongs();
        isAhead("8 0 / 4 ahead of 0 / 2", y, new int[] {0, 2, 1, 5, 4, 0}, new int[] {0, 0, 1, 1, 2, 0});
        EdgeJoins z = oblongs(5, 5, 5, 5, 5, 5);
        isAhead("8 100 / 4 ahead of 50 / 2", z, new int[] {0, 2, 1, 5, 4, 100}, new int[] {0, 0, 1, 1, 2, 50});
    }

    private static void lesserNumbersFirst() {
        EdgeJoins x = Sherds.allClosed(Sherds.SQUARE_3, Sherds.SQUARE_3, Sherds.SQUARE_3, Sherds.SQUARE_3,
            Sherds.SQUARE_3, Sherds.SQUARE_3);
        x.run();
        int k = 0;
        for (int a = 0; a < 6; a++) {
            for (int i = 0; i < 12; i += 3) {
                for (int b = a + 1; b < 6; b++) {
                    for (int j = 2; j < 12 && k < 100; j += 3) {
                        Sherds.pairIs("8 by a, i, b, j", x, k, a, i, b, j);
                        k++;
                    }
                }
            }
        }
    }

    private static void allRanks() {
        EdgeJoins x = Sherds.allClosed("0001122233", "0001122233");
        x.least(2);
        x.bound(9801);
        // The heights of sherd 1 by its sides: 1, 1, 1 and 1, 1 and 0, 0, 0 and 0, 1; sherd 0 has none.
        Sherds.heights(x, 1, 1, 1, 1, 1, 1, 0, 0, 0, 0, 1);
        Checks.due("8 sides of 3 and 2, on one another", x.run(), 32);
        Sherds.pairIs("8 no sum, n 3", x, 0, 0, 0, 1, 7, 3, 0);
        Sherds.pairIs("8 no sum, n 3, greater i", x, 1, 0, 5, 1, 7, 3, 0);
        Sherds.pairIs("8 no sum, n 2", x, 2, 0, 0, 1, 6, 2, 0);
        Sherds.pairIs("8 no sum, n 2, greater i", x, 3, 0, 1, 1, 7, 2, 0);
        Sherds.pairIs("8 no sum, n 2, the last", x, 9, 0, 8, 1, 7, 2, 0);
        Sherds.pairIs("8 one half", x, 10, 0, 0, 1, 9, 2, 1);
        Sherds.pairIs("8 one half, the last", x, 15, 0, 8, 1, 9, 2, 1);
        Sherds.pairIs("8 one, n 3", x, 16, 0, 0, 1, 2, 3, 3);
        Sherds.pairIs("8 one, n 3, greater i", x, 17, 0, 5, 1, 2, 3, 3);
        Sherds.pairIs("8 one, n 2", x, 18, 0, 0, 1, 1, 2, 2);
        Sherds.pairIs("8 one, n 2, greater j", x, 19, 0, 0, 1, 4, 2, 2);
        Sherds.pairIs("8 one, n 2, the last", x, 31, 0, 8, 1, 4, 2, 2);
    }

    private static void again() {
        for (Situation situation : new Situation[] {Situation.A_LIST, Situation.AN_EMPTY_LIST, Situation.TREES,
                Situation.SIX}) {
            Checks.changesNothing("8 again, " + situation, situation, EdgeJoins::run);
        }
        EdgeJoins x = Situation.SIX.get();
        Checks.due("8 as many again", x.run(), x.run());
        Checks.due("8 not twice in the list", x.count(2), 100);
    }

    private static void treesDoNotMatter() {
        EdgeJoins x = Situation.TREES.get();
        Checks.due("8 pairs of one tree too, and of turned sherds", x.run(), 72);
        Checks.due("8 the joins stay", x.count(3), 2);
        Sherds.placeIs("8 the trees stay", x, 3, 2, -2, 1, 0);
    }
}
