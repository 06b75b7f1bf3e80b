/** Trees that several tests use. */
final class Trees {
    private Trees() {
    }

    /**
     * Four hooks with arms of 11 cells. Only at the arms' ends (10, 11) and in the hooks' corners
     * (21, 22) the heights agree: each hook can take the next one's end, and four make a ring.
     */
    static EdgeJoins fourHooks() {
        EdgeJoins x = new EdgeJoins();
        for (int s = 0; s < 4; s++) {
            Sherds.closed(x, Sherds.side(11, 0) + "1" + Sherds.side(10, 2) + "1233");
            for (int at = 0; at < 26; at++) {
                if (at != 10 && at != 11 && at != 21 && at != 22) {
                    x.height(s, at, 10 * (s + 1));
                }
            }
        }
        x.least(2);
        x.bound(0);
        Checks.due("8 ends in corners, corners on ends", x.run(), 12);
        return x;
    }

    /**
     * So many stairs of 28 steps and 7 * 7 cells, which can't reach farther when they are joined: the first
     * cell of each (steps 27, 0) fits into a corner at the end of another (steps 13, 14), and nothing else fits.
     */
    static EdgeJoins stairs(int sherds) {
        EdgeJoins x = new EdgeJoins();
        for (int s = 0; s < sherds; s++) {
            Sherds.closed(x, "00" + "10".repeat(5) + "121233" + "23".repeat(5));
            for (int at = 1; at < 27; at++) {
                if (at != 13 && at != 14) {
                    x.height(s, at, 10 * (s + 1));
                }
            }
        }
        x.least(2);
        x.bound(0);
        return x;
    }

    /** A lone square 1, and a square 0 with an upright 2 lying on its upper side. */
    static EdgeJoins turnedTree() {
        EdgeJoins x = Sherds.listed(Sherds.SQUARE_2, Sherds.SQUARE_2, Sherds.UPRIGHT);
        Checks.due("10 the upright lies down", Sherds.join(x, 0, 0, 2, 2), 0);
        Sherds.placeIs("10 the upright lies down", x, 2, 2, -1, 1, 0);
        return x;
    }

    /** The ring, each hook joined to the one before. */
    static EdgeJoins ring() {
        EdgeJoins x = fourHooks();
        Sherds.join(x, 0, 10, 1, 22);
        Sherds.join(x, 1, 10, 2, 22);
        Sherds.join(x, 2, 10, 3, 22);
        return x;
    }
}
