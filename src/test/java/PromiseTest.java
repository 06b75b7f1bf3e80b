/** Each promise of the document, with answers worked out by hand: ordinary inputs, edges and wrong inputs. */
public final class PromiseTest {
    private static final String SQUARE = "0123";
    private static final String SQUARE_2 = "00112233";
    private static final String UPRIGHT = "011233";
    // Three cells wide, two high, without the cell in the middle of its upper row.
    private static final String CUP = "010301122233";
    // Three cells in a row, and one below the first of them.
    private static final String HOOK = "0001221233";

    private static final String INDEX = "IndexOutOfBoundsException";
    private static final String STATE = "IllegalStateException";
    private static final String ARGUMENT = "IllegalArgumentException";

    private static int wrong = 0;

    private interface Call {
        void make();
    }

    private static void due(String promise, long got, long want) {
        if (got != want) {
            wrong++;
            System.out.println(promise + ": answered " + got + ", due is " + want);
        }
    }

    private static void thrown(String promise, String want, Call call) {
        String got = "nothing";
        try {
            call.make();
        } catch (RuntimeException e) {
            got = e.getClass().getSimpleName();
        }
        if (!got.equals(want)) {
            wrong++;
            System.out.println(promise + ": threw " + got + ", due is " + want);
        }
    }

    public static void main(String[] args) {
        aNewObject();
        sherd();
        step();
        height();
        close();
        closeRefuses();
        least();
        bound();
        run();
        runTellsAHundred();
        ranks();
        pair();
        join();
        overlaps();
        joinMovesTrees();
        joinTurnsOn();
        loops();
        ring();
        ringFromTheFirst();
        undo();
        place();
        holes();
        pockets();
        wideTree();
        count();
        wildArguments();
        listStays();
        System.out.println(wrong == 0 ? "all promises hold" : wrong + " answers are not as due");
        if (wrong != 0) {
            System.exit(1);
        }
    }

    private static int open(EdgeJoins x, String steps) {
        int s = x.sherd();
        for (int at = 0; at < steps.length(); at++) {
            x.step(s, steps.charAt(at) - '0');
        }
        return s;
    }

    private static String side(int steps, int d) {
        return Integer.toString(d).repeat(steps);
    }

    private static int closed(EdgeJoins x, String steps) {
        int s = open(x, steps);
        if (x.close(s) == 0) {
            throw new AssertionError("the test's edge can't be closed: " + steps);
        }
        return s;
    }

    /** A square of 2 by 2 and an upright of two cells, stretches of 2 and more. */
    private static EdgeJoins two() {
        EdgeJoins x = new EdgeJoins();
        closed(x, SQUARE_2);
        closed(x, UPRIGHT);
        x.least(2);
        return x;
    }

    /** The pair's number in the list, or -1. */
    private static int find(EdgeJoins x, int a, int i, int b, int j) {
        int told = x.count(2);
        for (int k = 0; k < told; k++) {
            if (x.pair(k, 0) == a && x.pair(k, 1) == i && x.pair(k, 2) == b && x.pair(k, 3) == j) {
                return k;
            }
        }
        return -1;
    }

    private static void pairIs(String promise, EdgeJoins x, int k, int... want) {
        for (int what = 0; what < want.length; what++) {
            due(promise + ", what " + what, x.pair(k, what), want[what]);
        }
    }

    private static void placeIs(String promise, EdgeJoins x, int sherd, int... want) {
        for (int what = 0; what < want.length; what++) {
            due(promise + ", sherd " + sherd + ", what " + what, x.place(sherd, what), want[what]);
        }
    }

    private static void aNewObject() {
        EdgeJoins x = new EdgeJoins();
        for (int what = 0; what < 4; what++) {
            due("1 counts", x.count(what), 0);
        }
        thrown("1 no sherd", INDEX, () -> x.place(0, 0));
        thrown("1 no list", INDEX, () -> x.pair(0, 0));
        due("1 nothing to undo", x.undo() ? 1 : 0, 0);
        due("1 nothing to list", x.run(), 0);
        due("1 least at first", x.least(2), 3);
        due("1 bound at first", x.bound(0), 100);
        EdgeJoins other = new EdgeJoins();
        x.sherd();
        due("1 objects are apart", other.count(0), 0);
    }

    private static void sherd() {
        EdgeJoins x = new EdgeJoins();
        for (int s = 0; s < 6; s++) {
            due("2 number", x.sherd(), s);
            due("2 without steps", x.step(s, 0), 1);
        }
        thrown("2 seventh", STATE, x::sherd);
        due("2 still six", x.count(0), 6);
        thrown("2 seventh again", STATE, x::sherd);
    }

    private static void step() {
        EdgeJoins x = new EdgeJoins();
        thrown("3 no sherd", INDEX, () -> x.step(0, 0));
        int s = x.sherd();
        thrown("3 sherd below 0", INDEX, () -> x.step(-1, 9));
        thrown("3 d below 0", ARGUMENT, () -> x.step(s, -1));
        thrown("3 d above 3", ARGUMENT, () -> x.step(s, 4));
        for (int n = 1; n <= 28; n++) {
            due("3 how many", x.step(s, n & 3), n);
        }
        thrown("3 has 28", STATE, () -> x.step(s, 0));
        thrown("3 has 28, d wrong too", STATE, () -> x.step(s, 4));
        thrown("3 no sherd, d wrong too", INDEX, () -> x.step(1, 4));
        int t = closed(x, SQUARE);
        thrown("3 closed", STATE, () -> x.step(t, 0));
        thrown("3 closed, d wrong too", STATE, () -> x.step(t, -1));
    }

    private static void height() {
        EdgeJoins x = two();
        due("4 at first", x.height(0, 3, 99), 0);
        due("4 what it was", x.height(0, 3, 7), 99);
        due("4 to 0", x.height(0, 3, 0), 7);
        x.run();
        thrown("4 no sherd", INDEX, () -> x.height(2, 0, 0));
        thrown("4 sherd below 0", INDEX, () -> x.height(-1, 0, 0));
        thrown("4 step below 0", INDEX, () -> x.height(0, -1, 0));
        thrown("4 no step", INDEX, () -> x.height(1, 6, 0));
        thrown("4 no step, v wrong too", INDEX, () -> x.height(1, 6, 100));
        thrown("4 v below 0", ARGUMENT, () -> x.height(0, 3, -1));
        thrown("4 v above 99", ARGUMENT, () -> x.height(0, 3, 100));
        due("4 wrong calls leave the list", x.count(2), 8);
        due("4 wrong calls leave the height", x.height(0, 3, 0), 0);
        due("4 the list is gone, though the height is what it was", x.count(2), 0);
        int s = x.sherd();
        thrown("4 a sherd without steps", INDEX, () -> x.height(s, 0, 5));
        x.step(s, 2);
        x.run();
        due("4 an open edge", x.height(s, 0, 5), 0);
        due("4 the list is gone with an open edge's height", x.count(2), 0);
    }

    private static void close() {
        EdgeJoins x = new EdgeJoins();
        thrown("5 no sherd", INDEX, () -> x.close(0));
        int s = open(x, SQUARE_2);
        due("5 cells", x.close(s), 4);
        due("5 was closed", x.close(s), 0);
        due("5 closed ones", x.count(1), 1);
        due("5 least edge", x.close(open(x, SQUARE)), 1);
        due("5 not from the upper left", x.close(open(x, "301122233010")), 5);
        due("5 28 steps, 49 cells", x.close(open(x, side(7, 0) + side(7, 1) + side(7, 2) + side(7, 3))), 49);
        due("5 28 steps, 13 cells", x.close(open(x, side(13, 0) + "1" + side(13, 2) + "3")), 13);
        due("5 left of and above the first corner", x.close(open(x, "2301")), 1);
        thrown("5 below 0", INDEX, () -> x.close(-1));
        thrown("5 above", INDEX, () -> x.close(6));
        EdgeJoins y = two();
        y.run();
        due("5 can't be", y.close(open(y, "012")), 0);
        due("5 the list stays", y.count(2), 8);
        y.step(2, 3);
        due("5 it can be now", y.close(2), 1);
        due("5 the list is gone", y.count(2), 0);
        y.run();
        due("5 was closed already", y.close(0), 0);
        due("5 then the list stays", y.count(2), 8);
    }

    private static void closeRefuses() {
        String[] edges = {
            // too short, or not back where it began
            "", "0", "02", "012", "0011223", "0000", "01223", "001123", "30120",
            // against the clock
            "1032", "11003322",
            // a corner twice: to and fro, a spike, two squares at a corner, twice round, the first corner on the way
            "02020202", "002123", "01012323", "01230123", "01232301"};
        for (String edge : edges) {
            EdgeJoins x = new EdgeJoins();
            int s = open(x, edge);
            due("5 no edge: " + edge, x.close(s), 0);
            due("5 not closed: " + edge, x.count(1), 0);
            due("5 takes steps: " + edge, x.step(s, 0), edge.length() + 1);
        }
    }

    private static void least() {
        EdgeJoins x = two();
        due("6 what it was", x.least(20), 2);
        due("6 what it was then", x.least(3), 20);
        due("6 none of 3 steps", x.run(), 0);
        x.least(2);
        due("6 eight of 2 steps", x.run(), 8);
        thrown("6 too low", ARGUMENT, () -> x.least(1));
        thrown("6 too high", ARGUMENT, () -> x.least(21));
        due("6 wrong calls leave the list", x.count(2), 8);
        due("6 wrong calls leave the least", x.least(2), 2);
        due("6 the list is gone", x.count(2), 0);
    }

    private static void bound() {
        EdgeJoins x = two();
        due("7 what it was", x.bound(0), 100);
        due("7 what it was then", x.bound(9801), 0);
        x.run();
        thrown("7 too low", ARGUMENT, () -> x.bound(-1));
        thrown("7 too high", ARGUMENT, () -> x.bound(9802));
        due("7 wrong calls leave the list", x.count(2), 8);
        due("7 wrong calls leave the bound", x.bound(9801), 9801);
        due("7 the list is gone", x.count(2), 0);
        // Each straight stretch of the square has a sum of 3 * 3 + 4 * 4 = 25, 12.5 a step.
        for (int at = 0; at < 8; at++) {
            x.height(0, at, 3 + (at & 1));
        }
        x.bound(12);
        due("7 25 is above 12 * 2", x.run(), 0);
        x.bound(13);
        due("7 25 is not above 13 * 2", x.run(), 8);
        for (int at = 0; at < 8; at++) {
            x.height(0, at, 5);
        }
        x.bound(25);
        due("7 just the bound", x.run(), 8);
        x.bound(24);
        due("7 just above the bound", x.run(), 0);
    }

    private static void run() {
        EdgeJoins x = two();
        open(x, SQUARE_2);
        due("8 only closed ones", x.run(), 8);
        due("8 told", x.count(2), 8);
        EdgeJoins z = new EdgeJoins();
        open(z, SQUARE_2);
        closed(z, UPRIGHT);
        z.least(2);
        due("8 only closed ones, the lower one open", z.run(), 0);
        x.close(2);
        // 0 with 1 and 1 with 2: 8 each; 0 with 2: each of 4 sides on each of 4.
        due("8 three sherds", x.run(), 32);
        due("8 again", x.run(), 32);
        due("8 told again", x.count(2), 32);
        EdgeJoins y = new EdgeJoins();
        closed(y, CUP);
        closed(y, HOOK);
        y.least(2);
        y.run();
        pairIs("8 round the edge's end", y, find(y, 0, 11, 1, 6), 0, 11, 1, 6, 2, 0);
        due("8 not from the middle of a stretch", find(y, 0, 0, 1, 5), -1);
    }

    private static void runTellsAHundred() {
        EdgeJoins x = new EdgeJoins();
        for (int s = 0; s < 6; s++) {
            closed(x, "000111222333");
        }
        due("8 all are counted", x.run(), 15 * 16);
        due("8 a hundred are told", x.count(2), 100);
        due("9 the last told", x.pair(99, 4), 3);
        thrown("9 not told", INDEX, () -> x.pair(100, 4));
        thrown("10 not told", INDEX, () -> x.join(100));
        // 80 pairs have a = 0, 20 for each i; of a = 1 there are 16 for each i.
        pairIs("8 the first", x, 0, 0, 0, 1, 2, 3, 0);
        pairIs("8 i ahead of b", x, 19, 0, 0, 5, 11, 3, 0);
        pairIs("8 then the next i", x, 20, 0, 3, 1, 2, 3, 0);
        pairIs("8 the last of 100", x, 99, 1, 3, 2, 11, 3, 0);
        x.height(5, 11, 1);
        due("8 one more height, all are counted", x.run(), 240);
        due("8 told by rank: 5, 11 is behind", find(x, 0, 0, 5, 11), -1);
    }

    private static void ranks() {
        EdgeJoins x = new EdgeJoins();
        closed(x, "0001122233");
        closed(x, "0001122233");
        x.least(2);
        x.bound(9801);
        // The heights of sherd 1 by its sides: 1, 1, 1 and 1, 1 and 0, 0, 0 and 0, 1; sherd 0 has none.
        for (int at : new int[] {0, 1, 2, 3, 4, 9}) {
            x.height(1, at, 1);
        }
        due("8 sides of 3 and 2, on one another", x.run(), 32);
        pairIs("8 no sum, n 3", x, 0, 0, 0, 1, 7, 3, 0);
        pairIs("8 no sum, n 3, greater i", x, 1, 0, 5, 1, 7, 3, 0);
        pairIs("8 no sum, n 2", x, 2, 0, 0, 1, 6, 2, 0);
        pairIs("8 no sum, n 2, greater i", x, 3, 0, 1, 1, 7, 2, 0);
        pairIs("8 no sum, n 2, the last", x, 9, 0, 8, 1, 7, 2, 0);
        pairIs("8 one half", x, 10, 0, 0, 1, 9, 2, 1);
        pairIs("8 one half, the last", x, 15, 0, 8, 1, 9, 2, 1);
        pairIs("8 one, n 3", x, 16, 0, 0, 1, 2, 3, 3);
        pairIs("8 one, n 3, greater i", x, 17, 0, 5, 1, 2, 3, 3);
        pairIs("8 one, n 2", x, 18, 0, 0, 1, 1, 2, 2);
        pairIs("8 one, n 2, greater j", x, 19, 0, 0, 1, 4, 2, 2);
        pairIs("8 one, n 2, the last", x, 31, 0, 8, 1, 4, 2, 2);
        // Now 1, 1, 0 at the first side: 2 / 3 is behind 1 / 2, though its n is greater.
        x.height(1, 2, 0);
        x.run();
        int half = find(x, 0, 8, 1, 9);
        int twoThirds = find(x, 0, 0, 1, 2);
        due("8 both are listed", half >= 0 && twoThirds >= 0 ? 1 : 0, 1);
        due("8 quotients are not rounded", half < twoThirds ? 1 : 0, 1);
    }

    private static void pair() {
        EdgeJoins x = two();
        thrown("9 no list", INDEX, () -> x.pair(0, 0));
        for (int at = 0; at < 6; at++) {
            x.height(1, at, at);
        }
        x.run();
        // Steps 2, 1 of the upright have heights 2, 1: 4 + 1; steps 5, 4: 25 + 16.
        pairIs("9 first", x, 0, 0, 0, 1, 2, 2, 5);
        pairIs("9 second", x, 1, 0, 2, 1, 2, 2, 5);
        pairIs("9 fifth", x, 4, 0, 0, 1, 5, 2, 41);
        thrown("9 what below 0", INDEX, () -> x.pair(0, -1));
        thrown("9 what above 5", INDEX, () -> x.pair(0, 6));
        thrown("9 k below 0", INDEX, () -> x.pair(-1, 0));
        thrown("9 k above", INDEX, () -> x.pair(8, 0));
        x.height(0, 0, 0);
        thrown("9 the list is gone", INDEX, () -> x.pair(0, 0));
    }

    private static void join() {
        EdgeJoins x = two();
        thrown("10 no list", INDEX, () -> x.join(0));
        x.run();
        thrown("10 below 0", INDEX, () -> x.join(-1));
        thrown("10 above", INDEX, () -> x.join(8));
        // The square's upper side, and the upright's right side laid down on it.
        int k = find(x, 0, 0, 1, 2);
        due("10 joined", x.join(k), 0);
        placeIs("10 moved", x, 1, 2, -1, 1, 0);
        placeIs("10 stays", x, 0, 0, 0, 0, 0);
        due("10 just so", x.join(k), 3);
        due("10 otherwise, on the same side", x.join(find(x, 0, 0, 1, 5)), 2);
        due("10 otherwise, on another side", x.join(find(x, 0, 2, 1, 2)), 2);
        placeIs("10 nothing changes at 2 and 3", x, 1, 2, -1, 1, 0);
        due("10 one join", x.count(3), 1);
        due("10 the list stays", x.count(2), 8);
        x.least(3);
        thrown("10 the list is gone", INDEX, () -> x.join(0));
    }

    private static void overlaps() {
        EdgeJoins x = new EdgeJoins();
        closed(x, CUP);
        closed(x, SQUARE_2);
        x.least(2);
        x.run();
        // The square's lower left corner on the pocket's: its other column is on the cup's right wall.
        due("10 overlap", x.join(find(x, 0, 1, 1, 6)), 1);
        placeIs("10 nothing changes at 1", x, 1, 0, 0, 0, 1);
        due("10 no join at 1", x.count(3), 0);
        due("10 no join to undo at 1", x.undo() ? 1 : 0, 0);
        due("10 left of the cup", x.join(find(x, 0, 10, 1, 5)), 0);
        placeIs("10 left of the cup", x, 1, -2, 2, 3, 0);
        EdgeJoins y = new EdgeJoins();
        closed(y, CUP);
        closed(y, UPRIGHT);
        y.run();
        int inside = find(y, 0, 1, 1, 4);
        pairIs("10 just as wide as the pocket", y, inside, 0, 1, 1, 4, 3, 0);
        due("10 in the pocket", y.join(inside), 0);
        placeIs("10 in the pocket", y, 1, 1, -1, 0, 0);
        due("13 a filled pocket", y.holes(0), 0);
    }

    /** A lone square, and one with an upright lying on its upper side. */
    private static EdgeJoins squareAndTree() {
        EdgeJoins x = new EdgeJoins();
        closed(x, SQUARE_2);
        closed(x, SQUARE_2);
        closed(x, UPRIGHT);
        x.least(2);
        x.run();
        due("10 1 and 2", x.join(find(x, 1, 0, 2, 2)), 0);
        placeIs("10 1 and 2", x, 2, 2, -1, 1, 1);
        return x;
    }

    private static void joinMovesTrees() {
        // The tree of 1 and 2 to the right of 0, turned by no, two, one and three quarters.
        EdgeJoins straight = squareAndTree();
        due("10 straight", straight.join(find(straight, 0, 2, 1, 7)), 0);
        placeIs("10 straight", straight, 1, 2, 0, 0, 0);
        placeIs("10 straight", straight, 2, 4, -1, 1, 0);
        EdgeJoins round = squareAndTree();
        due("10 half round", round.join(find(round, 0, 2, 1, 3)), 0);
        placeIs("10 half round", round, 1, 4, 2, 2, 0);
        placeIs("10 half round", round, 2, 2, 3, 3, 0);
        EdgeJoins quarter = squareAndTree();
        due("10 a quarter", quarter.join(find(quarter, 0, 2, 1, 5)), 0);
        placeIs("10 a quarter", quarter, 1, 4, 0, 1, 0);
        placeIs("10 a quarter", quarter, 2, 5, 2, 2, 0);
        EdgeJoins over = squareAndTree();
        due("10 another of the tree would overlap", over.join(find(over, 0, 2, 1, 1)), 1);
        placeIs("10 the tree stays", over, 0, 0, 0, 0, 0);
        placeIs("10 the tree stays", over, 1, 0, 0, 0, 1);
        placeIs("10 the tree stays", over, 2, 2, -1, 1, 1);
    }

    private static void joinTurnsOn() {
        // The upright right of 1, turned by two quarters; then both by three more.
        EdgeJoins x = new EdgeJoins();
        closed(x, SQUARE_2);
        closed(x, SQUARE_2);
        closed(x, UPRIGHT);
        x.least(2);
        x.run();
        due("10 right of it", x.join(find(x, 1, 2, 2, 2)), 0);
        placeIs("10 right of it", x, 2, 3, 2, 2, 1);
        due("10 both", x.join(find(x, 0, 2, 1, 1)), 0);
        placeIs("10 both", x, 1, 2, 2, 3, 0);
        placeIs("12 quarters stay below 4", x, 2, 4, -1, 1, 0);
    }

    private static void loops() {
        EdgeJoins x = new EdgeJoins();
        closed(x, SQUARE_2);
        closed(x, SQUARE_2);
        closed(x, "0000122223");
        x.least(2);
        x.run();
        int closing = find(x, 1, 0, 2, 6);
        int missing = find(x, 1, 0, 2, 7);
        due("10 side by side", x.join(find(x, 0, 2, 1, 7)), 0);
        due("10 a bar on both", x.join(find(x, 0, 0, 2, 8)), 0);
        placeIs("10 a bar on both", x, 2, 0, -1, 0, 0);
        due("10 the loop closes", x.join(closing), 3);
        due("10 the loop misses", x.join(missing), 2);
        due("10 two joins", x.count(3), 2);
        x.undo();
        due("10 the loop is open again", x.join(missing), 0);
        placeIs("10 the bar by the other pair", x, 2, 1, -1, 0, 0);
    }

    /**
     * Four hooks with arms of 11 cells. Only at the arms' ends (10, 11) and in the hooks' corners
     * (21, 22) the heights agree: each hook can take the next one's end, and four make a ring.
     */
    private static EdgeJoins fourHooks() {
        EdgeJoins x = new EdgeJoins();
        for (int s = 0; s < 4; s++) {
            closed(x, side(11, 0) + "1" + side(10, 2) + "1233");
            for (int at = 0; at < 26; at++) {
                if (at != 10 && at != 11 && at != 21 && at != 22) {
                    x.height(s, at, 10 * (s + 1));
                }
            }
        }
        x.least(2);
        x.bound(0);
        due("8 ends in corners, corners on ends", x.run(), 12);
        return x;
    }

    private static void ring() {
        EdgeJoins x = fourHooks();
        int closing = find(x, 0, 21, 3, 11);
        due("10 third and fourth hook", x.join(find(x, 2, 10, 3, 22)), 0);
        placeIs("10 fourth beside the third", x, 3, 12, -1, 1, 2);
        due("10 second and third", x.join(find(x, 1, 10, 2, 22)), 0);
        placeIs("10 third beside the second", x, 2, 12, -1, 1, 1);
        placeIs("10 fourth went along", x, 3, 13, 11, 2, 1);
        due("13 no ring yet", x.holes(3), 0);
        due("10 first and second", x.join(find(x, 0, 10, 1, 22)), 0);
        placeIs("10 second", x, 1, 12, -1, 1, 0);
        placeIs("10 third", x, 2, 13, 11, 2, 0);
        placeIs("10 fourth", x, 3, 1, 12, 3, 0);
        due("10 the ring closes", x.join(closing), 3);
        due("10 the other way it misses", x.join(find(x, 0, 10, 3, 22)), 2);
        due("13 nine by nine", x.holes(0), 81);
        due("13 of any of its sherds", x.holes(3), 81);
        due("11 undone", x.undo() ? 1 : 0, 1);
        placeIs("11 first alone", x, 0, 0, 0, 0, 0);
        placeIs("11 second unmoved", x, 1, 0, 0, 0, 1);
        placeIs("11 third as ahead", x, 2, 12, -1, 1, 1);
        placeIs("11 fourth as ahead", x, 3, 13, 11, 2, 1);
        due("13 no ring any more", x.holes(3), 0);
        due("11 the pair that closed it joins now", x.join(closing), 0);
        due("11 undone too", x.undo() ? 1 : 0, 1);
        due("11 two more", x.undo() && x.undo() ? 1 : 0, 1);
        placeIs("11 third unmoved", x, 2, 0, 0, 0, 2);
        placeIs("11 fourth unmoved", x, 3, 0, 0, 0, 3);
        due("11 no more", x.undo() ? 1 : 0, 0);
        due("11 no joins", x.count(3), 0);
    }

    private static void ringFromTheFirst() {
        EdgeJoins x = fourHooks();
        due("10 second to the first", x.join(find(x, 0, 10, 1, 22)), 0);
        placeIs("10 second to the first", x, 1, 12, -1, 1, 0);
        due("10 third to the turned second", x.join(find(x, 1, 10, 2, 22)), 0);
        placeIs("10 third to the turned second", x, 2, 13, 11, 2, 0);
        due("10 fourth to the turned third", x.join(find(x, 2, 10, 3, 22)), 0);
        placeIs("10 fourth to the turned third", x, 3, 1, 12, 3, 0);
        due("13 the same hole", x.holes(1), 81);
        x.undo();
        placeIs("11 only the fourth is back", x, 2, 13, 11, 2, 0);
        placeIs("11 only the fourth is back", x, 3, 0, 0, 0, 3);
    }

    private static void undo() {
        EdgeJoins x = two();
        x.run();
        x.join(0);
        x.join(0);
        x.join(1);
        x.height(1, 0, 4);
        open(x, SQUARE);
        due("11 2 and 3 are no joins", x.count(3), 1);
        due("11 there was one", x.undo() ? 1 : 0, 1);
        due("11 only one", x.undo() ? 1 : 0, 0);
        placeIs("11 as ahead", x, 1, 0, 0, 0, 1);
        placeIs("11 a sherd made since", x, 2, 0, 0, 0, 2);
        due("11 heights stay", x.height(1, 0, 0), 4);
        due("11 the new edge stays", x.close(2), 1);
        x.run();
        x.join(3);
        x.undo();
        due("11 the list stays", x.count(2), 8);
        due("11 joined anew", x.join(3), 0);
        due("11 one again", x.count(3), 1);
    }

    private static void place() {
        EdgeJoins x = two();
        placeIs("12 unmoved", x, 0, 0, 0, 0, 0);
        placeIs("12 unmoved", x, 1, 0, 0, 0, 1);
        x.sherd();
        placeIs("12 without steps", x, 2, 0, 0, 0, 2);
        x.run();
        x.join(find(x, 0, 4, 1, 5));
        // On the lower side from the right: the upright's left side, its upper end to the right.
        placeIs("12 below", x, 1, 2, 2, 1, 0);
        thrown("12 below 0", INDEX, () -> x.place(-1, 0));
        thrown("12 no sherd", INDEX, () -> x.place(3, 0));
        thrown("12 what below 0", INDEX, () -> x.place(0, -1));
        thrown("12 what above 3", INDEX, () -> x.place(0, 4));
        thrown("12 no sherd of six", INDEX, () -> x.place(Integer.MAX_VALUE, 0));
    }

    private static void holes() {
        EdgeJoins x = new EdgeJoins();
        closed(x, CUP);
        closed(x, HOOK);
        open(x, SQUARE_2);
        x.least(2);
        due("13 a pocket is open", x.holes(0), 0);
        due("13 not closed", x.holes(2), 0);
        x.run();
        // The hook round the cup's upper left corner: the pocket is free at a corner only.
        due("13 joined", x.join(find(x, 0, 11, 1, 6)), 0);
        placeIs("13 joined", x, 1, -1, -1, 0, 0);
        due("13 a corner lets none out", x.holes(0), 1);
        due("13 of the other sherd", x.holes(1), 1);
        due("13 of another tree", x.holes(2), 0);
        x.undo();
        due("13 undone", x.holes(0), 0);
        thrown("13 below 0", INDEX, () -> x.holes(-1));
        thrown("13 no sherd", INDEX, () -> x.holes(3));
        EdgeJoins y = new EdgeJoins();
        closed(y, CUP);
        closed(y, "000012221233");
        y.least(2);
        y.run();
        due("13 a whole lid", y.join(find(y, 0, 11, 1, 8)), 0);
        due("13 under a whole lid", y.holes(1), 1);
    }

    /** Five stairs of 26 steps, each at the right end of the one before, and a claw round the last one's foot. */
    private static void wideTree() {
        EdgeJoins x = new EdgeJoins();
        for (int s = 0; s < 5; s++) {
            closed(x, "0" + "10".repeat(5) + "11" + "2" + "32".repeat(5) + "33");
            for (int at = 0; at < 24; at++) {
                if (at != 11 && at != 12) {
                    x.height(s, at, 10 * (s + 1));
                }
            }
        }
        closed(x, "0111122233010333");
        for (int at = 0; at < 14; at++) {
            x.height(5, at, 60);
        }
        x.least(2);
        x.bound(0);
        due("8 ends on ends", x.run(), 50);
        // Of a = 0 there are 18, then 14, 10, 6 and 2; the ends that follow one another are the second of them.
        int[] following = {1, 19, 33, 43};
        for (int s = 0; s < 4; s++) {
            pairIs("8 ends on ends", x, following[s], s, 11, s + 1, 25, 2, 0);
            due("10 stairs", x.join(following[s]), 0);
            placeIs("10 stairs", x, s + 1, 6 * (s + 1), 5 * (s + 1), 0, 0);
        }
        due("13 stairs", x.holes(4), 0);
        pairIs("8 the claw", x, 48, 4, 11, 5, 15, 2, 0);
        due("10 the claw", x.join(48), 0);
        placeIs("10 the claw", x, 5, 30, 25, 0, 0);
        due("14 five joins", x.count(3), 5);
        due("13 in the claw", x.holes(0), 1);
        x.undo();
        due("13 the claw alone", x.holes(5), 0);
    }

    private static void pockets() {
        // Open to the right, then turned so that they open down, to the left and up.
        for (int turn = 0; turn < 4; turn++) {
            StringBuilder edge = new StringBuilder();
            for (char c : "00012211000122223333".toCharArray()) {
                edge.append((c - '0' + turn) & 3);
            }
            EdgeJoins x = new EdgeJoins();
            due("13 an open pocket, turned by " + turn, x.holes(closed(x, edge.toString())), 0);
        }
        // Round a cell and back: it can't be closed, and so has no hole.
        EdgeJoins x = new EdgeJoins();
        int s = open(x, "011032300111222333");
        due("5 it comes to corners twice", x.close(s), 0);
        due("13 not closed, though it goes round a cell", x.holes(s), 0);
    }

    private static void count() {
        EdgeJoins x = two();
        x.sherd();
        due("14 sherds", x.count(0), 3);
        due("14 closed ones", x.count(1), 2);
        due("14 no list", x.count(2), 0);
        x.run();
        due("14 told", x.count(2), 8);
        x.join(0);
        due("14 joins", x.count(3), 1);
        x.undo();
        due("14 undone", x.count(3), 0);
        thrown("14 below 0", INDEX, () -> x.count(-1));
        thrown("14 above 3", INDEX, () -> x.count(4));
    }

    private static void wildArguments() {
        EdgeJoins x = two();
        x.run();
        for (int wild : new int[] {Integer.MIN_VALUE, -29, -1, 100, 1 << 30, Integer.MAX_VALUE}) {
            thrown("3 wild sherd", INDEX, () -> x.step(wild, wild));
            thrown("4 wild sherd", INDEX, () -> x.height(wild, wild, wild));
            thrown("4 wild step", INDEX, () -> x.height(0, wild, 0));
            thrown("4 wild v", ARGUMENT, () -> x.height(0, 0, wild));
            thrown("5 wild sherd", INDEX, () -> x.close(wild));
            thrown("9 wild k", INDEX, () -> x.pair(wild, 0));
            thrown("9 wild what", INDEX, () -> x.pair(0, wild));
            thrown("10 wild k", INDEX, () -> x.join(wild));
            thrown("12 wild sherd", INDEX, () -> x.place(wild, 0));
            thrown("12 wild what", INDEX, () -> x.place(0, wild));
            thrown("13 wild sherd", INDEX, () -> x.holes(wild));
            thrown("14 wild what", INDEX, () -> x.count(wild));
        }
        for (int wild : new int[] {Integer.MIN_VALUE, -1, 1 << 30, Integer.MAX_VALUE}) {
            thrown("6 wild n", ARGUMENT, () -> x.least(wild));
            thrown("7 wild v", ARGUMENT, () -> x.bound(wild));
        }
        due("wrong calls leave the list", x.count(2), 8);
    }

    private static void listStays() {
        EdgeJoins x = two();
        x.run();
        x.join(0);
        x.undo();
        int s = x.sherd();
        x.step(s, 0);
        x.close(s);
        x.holes(0);
        due("the list stays at sherd, step, join, undo", x.count(2), 8);
        due("what it tells stays", x.pair(7, 1), 6);
    }
}
