/** Promise 12: where a sherd's first corner lies, its quarters and the least sherd of its tree. */
public final class Promise12PlaceTest {
    private static final int[] NO_WHATS = {-1, 4, 5, -4, Integer.MIN_VALUE, Integer.MAX_VALUE};

    public static void main(String[] args) {
        unmoved();
        firstCorner();
        quarters();
        leastOfTheTree();
        noSuchSherd();
        noSuchWhat();
        changesNothing();
        Checks.end("promise 12");
    }

    private static void unmoved() {
        for (Situation situation : Situation.values()) {
            if (situation != Situation.TREES && situation != Situation.SIX) {
                EdgeJoins x = situation.get();
                for (int s = 0; s < situation.sherds(); s++) {
                    Sherds.placeIs("12 unmoved, " + situation, x, s, 0, 0, 0, s);
                }
            }
        }
        EdgeJoins x = Sherds.allClosed("2301", Sherds.from(5, Sherds.CUP));
        Sherds.placeIs("12 left of its first corner and above it", x, 0, 0, 0, 0, 0);
        Sherds.placeIs("12 told from another corner", x, 1, 0, 0, 0, 1);
    }

    private static void firstCorner() {
        // Right of a square, the second one's first corner is at each of its corners in turn.
        int[][] corners = {{2, 0}, {3, 0}, {4, 0}, {4, 1}, {4, 2}, {3, 2}, {2, 2}, {2, 1}};
        for (int first = 0; first < 8; first++) {
            EdgeJoins x = Sherds.listed(Sherds.SQUARE_2, Sherds.from(first, Sherds.SQUARE_2));
            int upTheLeftSide = Math.floorMod(7 - first, 8);
            Checks.due("12 right of it", Sherds.join(x, 0, 2, 1, upTheLeftSide), 0);
            Sherds.placeIs("12 told from corner " + first, x, 1, corners[first][0], corners[first][1], 0, 0);
        }
    }

    private static void quarters() {
        // From three quarters another one is none.
        EdgeJoins x = Sherds.listed(Sherds.SQUARE_2, Sherds.SQUARE_2, Sherds.UPRIGHT);
        Sherds.join(x, 1, 4, 2, 2);
        Checks.due("12 three quarters", x.place(2, 2), 3);
        Checks.due("12 one more for both", Sherds.join(x, 0, 0, 1, 3), 0);
        Checks.due("12 one", x.place(1, 2), 1);
        Checks.due("12 four are none", x.place(2, 2), 0);
        x.undo();
        Checks.due("12 three more for both", Sherds.join(x, 0, 0, 1, 7), 0);
        Checks.due("12 three", x.place(1, 2), 3);
        Checks.due("12 six are two", x.place(2, 2), 2);
    }

    private static void leastOfTheTree() {
        EdgeJoins x = Sherds.allClosed(Sherds.SQUARE_3, Sherds.SQUARE_3, Sherds.SQUARE_3, Sherds.SQUARE_3,
            Sherds.SQUARE_3, Sherds.SQUARE_3);
        for (int at = 0; at < 12; at++) {
            x.height(0, at, 3);
        }
        x.bound(9);
        x.run();
        // Those of 0 are last and not told; 64 pairs have a = 1, 16 for each i; then come 12 with a = 2, i = 0.
        trees("12 at first", x, 0, 1, 2, 3, 4, 5);
        x.join(64 + 8);
        trees("12 2 and 5", x, 0, 1, 2, 3, 4, 2);
        x.join(4);
        trees("12 1 and 3", x, 0, 1, 2, 1, 4, 2);
        Checks.due("12 1 and 5", x.join(16 + 14), 0);
        trees("12 the tree of 5 gets the lesser name", x, 0, 1, 1, 1, 4, 1);
        x.undo();
        trees("12 undone", x, 0, 1, 2, 1, 4, 2);
        x.undo();
        x.undo();
        trees("12 all undone", x, 0, 1, 2, 3, 4, 5);
        EdgeJoins y = Sherds.listed(Sherds.SQUARE_2, Sherds.SQUARE_2, Sherds.SQUARE_2);
        Sherds.join(y, 0, 0, 2, 5);
        trees("12 0 and 2", y, 0, 1, 0);
        Sherds.join(y, 1, 2, 2, 7);
        trees("12 the tree that moves has the least sherd", y, 0, 0, 0);
    }

    private static void trees(String sentence, EdgeJoins x, int... want) {
        for (int s = 0; s < want.length; s++) {
            Checks.due(sentence + ", the tree of " + s, x.place(s, 3), want[s]);
        }
    }

    private static void noSuchSherd() {
        for (Situation situation : Situation.values()) {
            for (int sherd : situation.noSherds()) {
                for (int what : new int[] {0, 3, 4, -1}) {
                    Checks.refused("12 sherd " + sherd + ", what " + what + ", " + situation, Checks.INDEX, situation,
                        x -> x.place(sherd, what));
                }
            }
        }
    }

    private static void noSuchWhat() {
        for (Situation situation : Situation.values()) {
            for (int s = 0; s < situation.sherds(); s++) {
                for (int what : NO_WHATS) {
                    int sherd = s;
                    Checks.refused("12 sherd " + s + ", what " + what + ", " + situation, Checks.INDEX, situation,
                        x -> x.place(sherd, what));
                }
            }
        }
    }

    private static void changesNothing() {
        for (Situation situation : new Situation[] {Situation.OPEN_EDGES, Situation.A_LIST, Situation.TREES,
                Situation.SIX}) {
            for (int what = 0; what < 4; what++) {
                int w = what;
                Checks.changesNothing("12 what " + w + ", " + situation, situation, x -> x.place(1, w));
            }
        }
    }
}
