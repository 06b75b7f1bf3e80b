/** Promise 13: how many cells of holes a tree has. */
public final class Promise13HolesTest {
    // Four cells in a row, and one below the first of them.
    private static final String LID = "000012221233";
    // Five cells wide, with a hollow of one cell in the middle of its upper side.
    private static final String WIDE_CUP = "0010300112222233";

    public static void main(String[] args) {
        notClosed();
        oneSherd();
        openHollows();
        aCornerLetsNoneOut();
        underALid();
        filled();
        twoHoles();
        ring();
        onlyItsOwnTree();
        undone();
        wideTree();
        widestTree();
        noSuchSherd();
        changesNothing();
        Checks.end("promise 13");
    }

    private static void notClosed() {
        EdgeJoins x = Situation.OPEN_EDGES.get();
        for (int s = 0; s < 5; s++) {
            Checks.due("13 not closed", x.holes(s), 0);
        }
        // Round a cell and back: it can't be closed.
        EdgeJoins y = new EdgeJoins();
        int s = Sherds.open(y, "011032300111222333");
        Checks.due("13 it can't be closed", y.close(s), 0);
        Checks.due("13 not closed, though it goes round a cell", y.holes(s), 0);
    }

    private static void oneSherd() {
        for (String edge : new String[] {Sherds.SQUARE, Sherds.UPRIGHT, Sherds.HOOK, Sherds.rectangle(7, 7),
                Sherds.rectangle(13, 1), Sherds.rectangle(1, 13)}) {
            Checks.due("13 one sherd", Sherds.allClosed(edge).holes(0), 0);
        }
    }

    private static void openHollows() {
        for (String edge : new String[] {Sherds.CUP, WIDE_CUP, "00012211000122223333", Sherds.UPPER_PART,
                Sherds.LOWER_PART, "0110330111222333"}) {
            for (int q = 0; q < 4; q++) {
                Checks.due("13 open to a side", Sherds.allClosed(Sherds.turned(edge, q)).holes(0), 0);
            }
        }
    }

    private static EdgeJoins cupAndHook() {
        EdgeJoins x = Sherds.listed(Sherds.CUP, Sherds.HOOK);
        Sherds.join(x, 0, 11, 1, 6);
        return x;
    }

    private static void aCornerLetsNoneOut() {
        // The hook goes round the cup's upper left corner and just over its hollow.
        EdgeJoins x = cupAndHook();
        Sherds.placeIs("13 the hook", x, 1, -1, -1, 0, 0);
        Checks.due("13 a corner lets none out", x.holes(0), 1);
        Checks.due("13 of any of its sherds", x.holes(1), 1);
        // A hook that is one cell shorter leaves the hollow open.
        EdgeJoins y = Sherds.listed(Sherds.CUP, "00121233");
        Checks.due("13 a shorter hook", Sherds.join(y, 0, 11, 1, 4), 0);
        Sherds.placeIs("13 a shorter hook", y, 1, -1, -1, 0, 0);
        Checks.due("13 a side lets out", y.holes(0), 0);
    }

    private static void underALid() {
        EdgeJoins x = Sherds.listed(Sherds.CUP, LID);
        Checks.due("13 a whole lid", Sherds.join(x, 0, 11, 1, 8), 0);
        Checks.due("13 under a whole lid", x.holes(0), 1);
        Checks.due("13 under a whole lid", x.holes(1), 1);
    }

    private static void filled() {
        EdgeJoins x = Sherds.listed(Sherds.CUP, LID, Sherds.SQUARE);
        Checks.due("13 in the hollow", Sherds.join(x, 0, 1, 2, 0), 0);
        Checks.due("13 a filled hollow", x.holes(2), 0);
        Checks.due("13 the lid", Sherds.join(x, 0, 11, 1, 8), 0);
        Checks.due("13 a filled hollow under a lid", x.holes(0), 0);
    }

    /** Two cups and a bar; the cups have no heights at one side of their hollow, the bar at one end. */
    private static EdgeJoins cupsAndBar() {
        EdgeJoins x = Sherds.allClosed(WIDE_CUP, Sherds.rectangle(5, 1), WIDE_CUP);
        Sherds.heights(x, 0, 0, 0, 10, 10, 10, 10, 10, 10, 10, 10, 10, 10, 10, 10, 10, 10);
        Sherds.heights(x, 1, 0, 0, 20, 20, 20, 20, 20, 20, 20, 0, 0, 20);
        Sherds.heights(x, 2, 30, 30, 30, 30, 30, 0, 0, 30, 30, 30, 30, 30, 30, 30, 30, 30);
        x.least(2);
        x.bound(0);
        x.run();
        return x;
    }

    private static void twoHoles() {
        EdgeJoins x = cupsAndBar();
        Checks.due("13 a bar on the cup", Sherds.join(x, 0, 0, 1, 10), 0);
        Sherds.placeIs("13 a bar on the cup", x, 1, 0, -1, 0, 0);
        Checks.due("13 one hole", x.holes(0), 1);
        Checks.due("13 another cup, upside down", Sherds.join(x, 1, 0, 2, 6), 0);
        Sherds.placeIs("13 another cup, upside down", x, 2, 5, -1, 2, 0);
        for (int s = 0; s < 3; s++) {
            Checks.due("13 two holes", x.holes(s), 2);
        }
        x.undo();
        Checks.due("13 one hole again", x.holes(1), 1);
        Checks.due("13 none in the cup alone", x.holes(2), 0);
    }

    private static void ring() {
        EdgeJoins x = Trees.ring();
        for (int s = 0; s < 4; s++) {
            Checks.due("13 nine by nine", x.holes(s), 81);
        }
        x.undo();
        Checks.due("13 a ring that lacks a side", x.holes(0), 0);
        Checks.due("13 the side alone", x.holes(3), 0);
    }

    private static void onlyItsOwnTree() {
        // The square lies, unmoved, where the hole is; and the hole is none of the square's.
        EdgeJoins x = Sherds.listed(Sherds.CUP, Sherds.HOOK, Sherds.SQUARE_2);
        Checks.due("13 the hook", Sherds.join(x, 0, 11, 1, 6), 0);
        Checks.due("13 another tree fills no hole", x.holes(0), 1);
        Checks.due("13 another tree's hole", x.holes(2), 0);
    }

    private static void undone() {
        EdgeJoins x = cupAndHook();
        x.undo();
        Checks.due("13 undone", x.holes(0), 0);
        Checks.due("13 undone", x.holes(1), 0);
        Checks.due("13 joined anew", Sherds.join(x, 0, 11, 1, 6), 0);
        Checks.due("13 a hole again", x.holes(1), 1);
    }

    /** Five stairs of 26 steps, each at the right end of the one before, and a claw round the last one's foot. */
    private static void wideTree() {
        EdgeJoins x = new EdgeJoins();
        for (int s = 0; s < 5; s++) {
            Sherds.closed(x, "0" + "10".repeat(5) + "11" + "2" + "32".repeat(5) + "33");
            for (int at = 0; at < 24; at++) {
                if (at != 11 && at != 12) {
                    x.height(s, at, 10 * (s + 1));
                }
            }
        }
        Sherds.closed(x, "0111122233010333");
        for (int at = 0; at < 14; at++) {
            x.height(5, at, 60);
        }
        x.least(2);
        x.bound(0);
        Checks.due("13 ends on ends", x.run(), 50);
        // Of a = 0 there are 18, then 14, 10, 6 and 2; the ends that follow one another are the second of them.
        int[] following = {1, 19, 33, 43};
        for (int s = 0; s < 4; s++) {
            Sherds.pairIs("13 ends on ends", x, following[s], s, 11, s + 1, 25, 2, 0);
            Checks.due("13 stairs", x.join(following[s]), 0);
            Sherds.placeIs("13 stairs", x, s + 1, 6 * (s + 1), 5 * (s + 1), 0, 0);
        }
        Checks.due("13 no hole in stairs", x.holes(4), 0);
        Sherds.pairIs("13 the claw", x, 48, 4, 11, 5, 15, 2, 0);
        Checks.due("13 the claw", x.join(48), 0);
        Sherds.placeIs("13 the claw", x, 5, 30, 25, 0, 0);
        for (int time = 0; time < 60; time++) {
            Checks.due("13 in the claw, however often it is asked", x.holes(0), 1);
        }
        x.undo();
        Checks.due("13 the claw alone", x.holes(5), 0);
    }

    private static void widestTree() {
        EdgeJoins x = Trees.stairs(6);
        Checks.due("13 two for each two stairs", x.run(), 30);
        // 10 pairs have a = 0, then come 8, 6, 4 and 2; each time the first one.
        int[] following = {0, 10, 18, 24, 28};
        for (int s = 0; s < 5; s++) {
            Sherds.pairIs("13 one behind the other", x, following[s], s, 13, s + 1, 0, 2, 0);
            Checks.due("13 one behind the other", x.join(following[s]), 0);
        }
        Sherds.placeIs("13 the last one", x, 5, 30, 30, 0, 0);
        Checks.due("13 no hole in the widest tree", x.holes(0), 0);
        Checks.due("13 no hole in the widest tree", x.holes(5), 0);
    }

    private static void noSuchSherd() {
        for (Situation situation : Situation.values()) {
            for (int sherd : situation.noSherds()) {
                Checks.refused("13 sherd " + sherd + ", " + situation, Checks.INDEX, situation, x -> x.holes(sherd));
            }
        }
        Checks.due("13 the first sherd", Situation.SIX.get().holes(0), 0);
        Checks.due("13 the last sherd", Situation.SIX.get().holes(5), 0);
    }

    private static void changesNothing() {
        Checks.changesNothing("13 with a hole", Promise13HolesTest::cupAndHook, x -> x.holes(0));
        for (Situation situation : new Situation[] {Situation.OPEN_EDGES, Situation.A_LIST, Situation.TREES,
                Situation.SIX}) {
            Checks.changesNothing("13 without a hole, " + situation, situation, x -> x.holes(2));
        }
    }
}
