/** Promise 10: joins move the whole tree of b, overlap nothing, and tell whether a loop closes. */
public final class Promise10JoinTest {
    public static void main(String[] args) {
        joined();
        eachQuarter();
        quartersOfBoth();
        noSuchPair();
        overlapsOfOneCell();
        overlapsWithA();
        overlapsInATree();
        overlapsFarFromTheFirst();
        otherTreesDoNotMatter();
        justSo();
        otherwise();
        otherwiseByQuartersAlone();
        otherwiseAheadOfOverlap();
        loops();
        theWholeTreeMoves();
        theTreeOfTheFirstMoves();
        aTurnedTreeMovesOn();
        oneTreeOfSix();
        nothingChanges();
        theListStays();
        ring();
        Checks.end("promise 10");
    }

    private static void joined() {
        EdgeJoins x = Sherds.listed(Sherds.SQUARE_2, Sherds.UPRIGHT);
        // The upright's right side on the square's upper side.
        Checks.due("10 joined", Sherds.join(x, 0, 0, 1, 2), 0);
        Sherds.placeIs("10 b moved", x, 1, 2, -1, 1, 0);
        Sherds.placeIs("10 a stays", x, 0, 0, 0, 0, 0);
        Checks.due("10 a join", x.count(3), 1);
    }

    private static void eachQuarter() {
        // Each of the second square's sides to the right of the first one: it covers the same cells.
        int[][] places = {{7, 2, 0, 0}, {5, 4, 0, 1}, {3, 4, 2, 2}, {1, 2, 2, 3}};
        for (int[] p : places) {
            EdgeJoins x = Sherds.listed(Sherds.SQUARE_2, Sherds.SQUARE_2);
            Checks.due("10 turned by " + p[3], Sherds.join(x, 0, 2, 1, p[0]), 0);
            Sherds.placeIs("10 turned by " + p[3], x, 1, p[1], p[2], p[3], 0);
        }
    }

    private static void quartersOfBoth() {
        // The upright right of 1, turned by two quarters; then both by three more, which makes five.
        EdgeJoins x = Sherds.listed(Sherds.SQUARE_2, Sherds.SQUARE_2, Sherds.UPRIGHT);
        Checks.due("10 right of it", Sherds.join(x, 1, 2, 2, 2), 0);
        Sherds.placeIs("10 right of it", x, 2, 3, 2, 2, 1);
        Checks.due("10 both", Sherds.join(x, 0, 2, 1, 1), 0);
        Sherds.placeIs("10 both", x, 1, 2, 2, 3, 0);
        Sherds.placeIs("10 both", x, 2, 4, -1, 1, 0);
    }

    private static void noSuchPair() {
        for (Situation situation : Situation.values()) {
            for (int k : situation.noPairs()) {
                Checks.refused("10 pair " + k + ", " + situation, Checks.INDEX, situation, x -> x.join(k));
            }
        }
        Checks.due("10 the first pair", Situation.A_LIST.get().join(0), 0);
        Checks.due("10 the last pair", Situation.A_LIST.get().join(7), 0);
        Checks.due("10 the hundredth pair", Situation.SIX.get().join(99), 0);
    }

    private static EdgeJoins cupAndSquare() {
        return Sherds.listed(Sherds.CUP, Sherds.SQUARE_2);
    }

    private static void overlapsOfOneCell() {
        // In the cup's hollow: one cell wide it goes in, two cells wide it lies on one cell of the cup.
        EdgeJoins x = Sherds.listed(Sherds.CUP, Sherds.UPRIGHT);
        Checks.due("10 just as wide as the hollow", Sherds.join(x, 0, 1, 1, 4), 0);
        Sherds.placeIs("10 in the hollow", x, 1, 1, -1, 0, 0);
        EdgeJoins y = cupAndSquare();
        int inTheHollow = Sherds.find(y, 0, 1, 1, 6);
        Sherds.pairIs("10 one cell too wide", y, inTheHollow, 0, 1, 1, 6, 2, 0);
        Checks.due("10 one cell too wide", y.join(inTheHollow), 1);
        Checks.changesNothing("10 one cell too wide", Promise10JoinTest::cupAndSquare, z -> z.join(inTheHollow));
        Checks.due("10 no join to undo", y.undo(), false);
        Checks.due("10 beside the cup", Sherds.join(y, 0, 10, 1, 5), 0);
        Sherds.placeIs("10 beside the cup", y, 1, -2, 2, 3, 0);
    }

    private static EdgeJoins stackOnTheFirst() {
        EdgeJoins x = Sherds.listed(Sherds.SQUARE_2, Sherds.SQUARE_2, Sherds.SQUARE_2);
        Sherds.join(x, 0, 0, 2, 5);
        return x;
    }

    private static void overlapsWithA() {
        EdgeJoins x = stackOnTheFirst();
        Sherds.placeIs("10 2 above 0", x, 2, 0, -2, 0, 0);
        int there = Sherds.find(x, 0, 0, 1, 5);
        Checks.due("10 where another of a's tree lies", x.join(there), 1);
        Checks.changesNothing("10 where another of a's tree lies", Promise10JoinTest::stackOnTheFirst, y -> y.join(there));
        Checks.due("10 beside it", Sherds.join(x, 0, 2, 1, 7), 0);
        Sherds.placeIs("10 beside it", x, 1, 2, 0, 0, 0);
    }

    /** A lone square, and one with an upright lying on its upper side. */
    private static EdgeJoins squareAndTree() {
        EdgeJoins x = Sherds.listed(Sherds.SQUARE_2, Sherds.SQUARE_2, Sherds.UPRIGHT);
        Sherds.join(x, 1, 0, 2, 2);
        return x;
    }

    private static void overlapsInATree() {
        // The square itself would fit right of the first one, but the upright would lie on the first one.
        EdgeJoins x = squareAndTree();
        int k = Sherds.find(x, 0, 2, 1, 1);
        Checks.due("10 another of b's tree would overlap", x.join(k), 1);
        Sherds.placeIs("10 the tree stays", x, 0, 0, 0, 0, 0);
        Sherds.placeIs("10 the tree stays", x, 1, 0, 0, 0, 1);
        Sherds.placeIs("10 the tree stays", x, 2, 2, -1, 1, 1);
        Checks.changesNothing("10 another of b's tree would overlap", Promise10JoinTest::squareAndTree, y -> y.join(k));
    }

    private static void overlapsFarFromTheFirst() {
        EdgeJoins x = Trees.stairs(5);
        // Round the end of the fifth, and onto a cell of it.
        int claw = Sherds.closed(x, "0112223333011103");
        Sherds.heights(x, claw, 0, 60, 60, 60, 60, 60, 60, 60, 60, 60, 60, 60, 70, 71, 72, 0);
        x.height(4, 17, 70);
        x.height(4, 16, 71);
        x.height(4, 15, 72);
        Checks.due("10 two for each two stairs, and the claw", x.run(), 21);
        Sherds.pairIs("10 the claw", x, 0, 4, 13, claw, 0, 5, 0);
        // Behind it 8 pairs have a = 0, then come 6, 4 and 2: half of them go up, behind those that go down.
        for (int k : new int[] {5, 12, 17, 20}) {
            Checks.due("10 stairs up", x.join(k), 0);
        }
        Sherds.placeIs("10 the fifth, up there", x, 4, -24, -24, 0, 0);
        // A tree that lay the other way leaves nothing that the next one would be looked at with.
        for (int k = 0; k < 4; k++) {
            Checks.due("10 undone", x.undo(), true);
        }
        for (int k : new int[] {1, 9, 15, 19}) {
            Checks.due("10 stairs down", x.join(k), 0);
        }
        Sherds.placeIs("10 the fifth", x, 4, 24, 24, 0, 0);
        Checks.due("10 the claw would overlap", x.join(0), 1);
        Sherds.placeIs("10 the claw stays", x, claw, 0, 0, 0, claw);
        Checks.due("10 four joins", x.count(3), 4);
    }

    private static void otherTreesDoNotMatter() {
        EdgeJoins x = Sherds.listed(Sherds.SQUARE_2, Sherds.SQUARE_2, Sherds.SQUARE_2, Sherds.UPRIGHT);
        Checks.due("10 unmoved ones lie on one another", Sherds.join(x, 0, 2, 1, 7), 0);
        Checks.due("10 another tree at the same place", Sherds.join(x, 2, 2, 3, 5), 0);
        Sherds.placeIs("10 right of 0", x, 1, 2, 0, 0, 0);
        Sherds.placeIs("10 right of 2", x, 3, 2, 0, 0, 2);
        Checks.due("10 as one tree they would overlap", Sherds.join(x, 0, 4, 2, 3), 1);
        Checks.due("10 as one tree beside one another", Sherds.join(x, 0, 4, 2, 7), 0);
    }

    private static void justSo() {
        for (Situation situation : new Situation[] {Situation.A_LIST, Situation.TREES}) {
            int k = situation == Situation.TREES ? 13 : 0;
            EdgeJoins x = situation.get();
            Checks.due("10 joins, " + situation, x.join(k), 0);
            Checks.due("10 just so, " + situation, x.join(k), 3);
            Checks.due("10 just so again, " + situation, x.join(k), 3);
            Checks.due("10 undone, " + situation, x.undo(), true);
            Checks.due("10 joins anew, " + situation, x.join(k), 0);
        }
    }

    private static void otherwise() {
        EdgeJoins x = Sherds.listed(Sherds.SQUARE_2, Sherds.SQUARE_2);
        Sherds.join(x, 0, 2, 1, 7);
        for (int j : new int[] {1, 3, 5}) {
            Checks.due("10 the same cells, other quarters", Sherds.join(x, 0, 2, 1, j), 2);
        }
        Checks.due("10 at another side", Sherds.join(x, 0, 4, 1, 1), 2);
        EdgeJoins y = Sherds.listed(Sherds.rectangle(4, 1), Sherds.SQUARE_2);
        Checks.due("10 on the bar's middle", Sherds.join(y, 0, 1, 1, 5), 0);
        Sherds.placeIs("10 on the bar's middle", y, 1, 1, -2, 0, 0);
        Checks.due("10 a step to the left", Sherds.join(y, 0, 0, 1, 5), 2);
        Checks.due("10 a step to the right", Sherds.join(y, 0, 2, 1, 5), 2);
        EdgeJoins z = Sherds.listed(Sherds.rectangle(1, 4), Sherds.SQUARE_2);
        Checks.due("10 at the post's middle", Sherds.join(z, 0, 2, 1, 7), 0);
        Sherds.placeIs("10 at the post's middle", z, 1, 1, 1, 0, 0);
        Checks.due("10 a step up", Sherds.join(z, 0, 1, 1, 7), 2);
        Checks.due("10 a step down", Sherds.join(z, 0, 3, 1, 7), 2);
    }

    private static void otherwiseByQuartersAlone() {
        // The second square's first corner is its lower left one: above the first square and left of it, it is at 0, 0.
        EdgeJoins x = Sherds.listed(Sherds.SQUARE_2, Sherds.from(6, Sherds.SQUARE_2));
        Checks.due("10 above the first", Sherds.join(x, 0, 0, 1, 7), 0);
        Sherds.placeIs("10 above the first", x, 1, 0, 0, 0, 0);
        Checks.due("10 left of it, with the same first corner", Sherds.join(x, 0, 6, 1, 1), 2);
        Checks.due("10 just so", Sherds.join(x, 0, 0, 1, 7), 3);
        x.undo();
        Checks.due("10 left of the first", Sherds.join(x, 0, 6, 1, 1), 0);
        Sherds.placeIs("10 left of the first", x, 1, 0, 0, 2, 0);
        Checks.due("10 above it, with the same first corner", Sherds.join(x, 0, 0, 1, 7), 2);
    }

    private static void otherwiseAheadOfOverlap() {
        EdgeJoins x = cupAndSquare();
        Checks.due("10 it would overlap", Sherds.join(x, 0, 1, 1, 6), 1);
        Checks.due("10 beside the cup", Sherds.join(x, 0, 10, 1, 5), 0);
        Checks.due("10 in one tree, and it would overlap", Sherds.join(x, 0, 1, 1, 6), 2);
    }

    /** Two squares side by side, and a bar on both. */
    private static EdgeJoins loop() {
        EdgeJoins x = Sherds.listed(Sherds.SQUARE_2, Sherds.SQUARE_2, Sherds.rectangle(4, 1));
        Sherds.join(x, 0, 2, 1, 7);
        Sherds.join(x, 0, 0, 2, 8);
        return x;
    }

    private static void loops() {
        EdgeJoins x = loop();
        Sherds.placeIs("10 a bar on both", x, 2, 0, -1, 0, 0);
        Checks.due("10 the loop closes", Sherds.join(x, 1, 0, 2, 6), 3);
        Checks.due("10 the loop misses by a step", Sherds.join(x, 1, 0, 2, 7), 2);
        Checks.due("10 two joins", x.count(3), 2);
        x.undo();
        Checks.due("10 the loop is open again", Sherds.join(x, 1, 0, 2, 7), 0);
        Sherds.placeIs("10 the bar by the other pair", x, 2, 1, -1, 0, 0);
    }

    private static void theWholeTreeMoves() {
        int[][] moves = {{7, 2, 0, 0, 4, -1, 1}, {3, 4, 2, 2, 2, 3, 3}, {5, 4, 0, 1, 5, 2, 2}};
        for (int[] m : moves) {
            EdgeJoins x = squareAndTree();
            Checks.due("10 the tree by side " + m[0], Sherds.join(x, 0, 2, 1, m[0]), 0);
            Sherds.placeIs("10 b by side " + m[0], x, 1, m[1], m[2], m[3], 0);
            Sherds.placeIs("10 the other by side " + m[0], x, 2, m[4], m[5], m[6], 0);
        }
    }

    private static void theTreeOfTheFirstMoves() {
        EdgeJoins x = stackOnTheFirst();
        // 2 right of 1, and 0 below it; 1 is the lower one and stays.
        Checks.due("10 the tree of 0 and 2", Sherds.join(x, 1, 2, 2, 7), 0);
        Sherds.placeIs("10 1 stays", x, 1, 0, 0, 0, 0);
        Sherds.placeIs("10 2 moved", x, 2, 2, 0, 0, 0);
        Sherds.placeIs("10 0 went along", x, 0, 2, 2, 0, 0);
    }

    private static void aTurnedTreeMovesOn() {
        EdgeJoins x = Trees.turnedTree();
        Checks.due("10 b was moved and turned by then", Sherds.join(x, 1, 2, 2, 5), 0);
        Sherds.placeIs("10 b is turned back", x, 2, 2, 0, 0, 0);
        Sherds.placeIs("10 0 is turned back as far", x, 0, 3, 2, 3, 0);
        Sherds.placeIs("10 1 stays", x, 1, 0, 0, 0, 0);
        int onThatSide = Sherds.find(Trees.turnedTree(), 1, 2, 2, 2);
        Checks.due("10 0 would overlap", Trees.turnedTree().join(onThatSide), 1);
        Checks.changesNothing("10 0 would overlap", Trees::turnedTree, y -> y.join(onThatSide));
    }

    private static void oneTreeOfSix() {
        EdgeJoins x = Sherds.allClosed(Sherds.SQUARE_3, Sherds.SQUARE_3, Sherds.SQUARE_3, Sherds.SQUARE_3,
            Sherds.SQUARE_3, Sherds.SQUARE_3);
        // Only the right side of each and the left side of the next one have the same heights.
        for (int s = 0; s < 6; s++) {
            x.height(s, 4, 10 + s);
            x.height(s, 10, 9 + s);
            x.height(s, 1, 20 + s);
            x.height(s, 7, 30 + s);
        }
        x.bound(0);
        Checks.due("10 five pairs", x.run(), 5);
        for (int k = 4; k >= 0; k--) {
            Sherds.pairIs("10 side by side", x, k, k, 3, k + 1, 11, 3, 0);
            Checks.due("10 side by side", x.join(k), 0);
            Checks.due("10 joins", x.count(3), 5 - k);
        }
        for (int s = 0; s < 6; s++) {
            Sherds.placeIs("10 all in a row", x, s, 3 * s, 0, 0, 0);
        }
        for (int k = 0; k < 5; k++) {
            Checks.due("10 all are in one tree", x.join(k), 3);
        }
        Checks.due("10 five joins", x.count(3), 5);
    }

    private static void nothingChanges() {
        Checks.changesNothing("10 the loop closes", Promise10JoinTest::loop, x -> x.join(Sherds.find(x, 1, 0, 2, 6)));
        Checks.changesNothing("10 the loop misses", Promise10JoinTest::loop, x -> x.join(Sherds.find(x, 1, 0, 2, 7)));
        Checks.changesNothing("10 just so", Situation.TREES, x -> x.join(7));
        Checks.changesNothing("10 otherwise", Situation.TREES, x -> x.join(8));
    }

    private static void theListStays() {
        EdgeJoins x = Situation.A_LIST.get();
        int sum = x.pair(7, 5);
        x.join(0);
        Checks.due("10 the list stays", x.count(2), 8);
        Checks.due("10 what it tells stays", x.pair(7, 5), sum);
        x.least(2);
        Checks.refused("10 the list is gone", Checks.INDEX, x, y -> y.join(0));
        x.run();
        Checks.due("10 a list again", x.join(0), 3);
    }

    private static void ring() {
        EdgeJoins x = Trees.fourHooks();
        int closing = Sherds.find(x, 0, 21, 3, 11);
        Checks.due("10 third and fourth hook", Sherds.join(x, 2, 10, 3, 22), 0);
        Sherds.placeIs("10 fourth beside the third", x, 3, 12, -1, 1, 2);
        Checks.due("10 second and third", Sherds.join(x, 1, 10, 2, 22), 0);
        Sherds.placeIs("10 third beside the second", x, 2, 12, -1, 1, 1);
        Sherds.placeIs("10 fourth went along", x, 3, 13, 11, 2, 1);
        Checks.due("10 first and second", Sherds.join(x, 0, 10, 1, 22), 0);
        Sherds.placeIs("10 second", x, 1, 12, -1, 1, 0);
        Sherds.placeIs("10 third", x, 2, 13, 11, 2, 0);
        Sherds.placeIs("10 fourth", x, 3, 1, 12, 3, 0);
        Checks.due("10 the ring closes", x.join(closing), 3);
        Checks.due("10 the other way it misses", Sherds.join(x, 0, 10, 3, 22), 2);
    }
}
