/** Promise 5: which edges can be closed, how many cells they have, and when the list is gone. */
public final class Promise05CloseTest {
    public static void main(String[] args) {
        cells();
        fourSteps();
        twentyEightSteps();
        endsWhereItBegan();
        noCornerTwice();
        clockwise();
        eachStart();
        wasClosed();
        canBeLater();
        theListIsGone();
        theListStays();
        noSuchSherd();
        Checks.end("promise 5");
    }

    private static int cellsOf(String steps) {
        EdgeJoins x = new EdgeJoins();
        return x.close(Sherds.open(x, steps));
    }

    private static void can(String sentence, String steps, int cells) {
        EdgeJoins x = new EdgeJoins();
        int s = Sherds.open(x, steps);
        Checks.due("5 " + sentence + ": " + steps, x.close(s), cells);
        Checks.due("5 it is closed: " + steps, x.count(1), 1);
        Checks.refused("5 it takes no step: " + steps, Checks.STATE, x, y -> y.step(s, 0));
    }

    private static void canNot(String sentence, String steps) {
        Checks.due("5 " + sentence + ": " + steps, cellsOf(steps), 0);
        Checks.changesNothing("5 " + sentence + ": " + steps, () -> {
            EdgeJoins x = Situation.A_LIST.get();
            Sherds.open(x, steps);
            return x;
        }, x -> x.close(3));
    }

    private static void cells() {
        can("one cell", Sherds.SQUARE, 1);
        can("two cells", Sherds.UPRIGHT, 2);
        can("a hollow above", Sherds.CUP, 5);
        can("a hollow at a side", "00012211000122223333", 9);
        can("left of the first corner and above it", "2301", 1);
        can("part of a rectangle", Sherds.UPPER_PART, 13);
        can("the rest of it", Sherds.LOWER_PART, 17);
    }

    private static void fourSteps() {
        canNot("no steps", "");
        canNot("one step", "0");
        canNot("two steps, back where it began", "02");
        canNot("two steps, back where it began", "31");
        canNot("three steps", "012");
        can("four steps", "0123", 1);
    }

    private static void twentyEightSteps() {
        can("26 steps", Sherds.rectangle(6, 7), 42);
        can("28 steps, the most cells", Sherds.rectangle(7, 7), 49);
        can("28 steps, one row", Sherds.rectangle(13, 1), 13);
        can("28 steps, one column", Sherds.rectangle(1, 13), 13);
        canNot("28 steps, not back", Sherds.STAIRS_28);
        canNot("28 steps, not back by one either way", Sherds.side(7, 0) + Sherds.side(7, 1) + Sherds.side(7, 2)
            + Sherds.side(6, 3) + "2");
        EdgeJoins x = new EdgeJoins();
        Sherds.open(x, Sherds.rectangle(7, 8).substring(0, 28));
        Checks.due("5 30 steps would be back", x.close(0), 0);
        Checks.refused("5 the 29th of them", Checks.STATE, x, y -> y.step(0, 3));
    }

    private static void endsWhereItBegan() {
        canNot("below the first corner", "0011223");
        canNot("left of the first corner", "1122330");
        canNot("above the first corner", "2233001");
        canNot("right of the first corner", "3300112");
        canNot("left of it and below it", "000111222233");
        canNot("a step beyond it", "01230");
        canNot("straight on", "0000");
    }

    private static void noCornerTwice() {
        canNot("to and fro", "02020202");
        canNot("a spike at the upper side", "03101223");
        canNot("a spike at the right side", "002123");
        canNot("a spike at the first corner", "200123");
        canNot("a cell on a string", "001232");
        canNot("two cells at a corner", "01012323");
        canNot("two cells at the first corner", "01232301");
        canNot("twice round", "01230123");
        canNot("round a cell and to its own corner", "011032300111222333");
        can("near itself, a cell wide", "00012211000122223333", 9);
        can("near itself, round a cell but for one side", Sherds.CUP, 5);
    }

    private static void clockwise() {
        for (String edge : new String[] {Sherds.SQUARE, Sherds.UPRIGHT, Sherds.CUP, Sherds.HOOK, Sherds.UPPER_PART,
                Sherds.rectangle(7, 7), "00012211000122223333"}) {
            int cells = cellsOf(edge);
            for (int q = 0; q < 4; q++) {
                can("clockwise", Sherds.turned(edge, q), cells);
                canNot("against the clock", Sherds.turned(Sherds.backwards(edge), q));
            }
        }
    }

    private static void eachStart() {
        for (String edge : new String[] {Sherds.CUP, Sherds.LOWER_PART}) {
            int cells = cellsOf(edge);
            for (int first = 1; first < edge.length(); first++) {
                can("from step " + first, Sherds.from(first, edge), cells);
                Checks.due("5 against the clock from step " + first,
                    cellsOf(Sherds.from(first, Sherds.backwards(edge))), 0);
            }
        }
    }

    private static void wasClosed() {
        EdgeJoins x = Situation.A_LIST.get();
        Checks.due("5 it was closed", x.close(0), 0);
        Checks.due("5 it was closed, again", x.close(0), 0);
        Checks.due("5 closed ones", x.count(1), 2);
        Checks.changesNothing("5 it was closed, with a list", Situation.A_LIST, y -> y.close(1));
        Checks.changesNothing("5 it was closed, in a tree", Situation.TREES, y -> y.close(3));
        Checks.changesNothing("5 it was closed, one of six", Situation.SIX, y -> y.close(5));
    }

    private static void canBeLater() {
        EdgeJoins x = new EdgeJoins();
        Sherds.open(x, "001122");
        Checks.due("5 two steps too few", x.close(0), 0);
        x.step(0, 3);
        Checks.due("5 one step too few", x.close(0), 0);
        Checks.due("5 none closed", x.count(1), 0);
        x.step(0, 3);
        Checks.due("5 now it can be", x.close(0), 4);
        Checks.due("5 one closed", x.count(1), 1);
        EdgeJoins y = new EdgeJoins();
        Sherds.open(y, "01230123");
        Checks.due("5 a corner twice", y.close(0), 0);
        Checks.due("5 a corner twice, later", y.step(0, 0), 9);
        Checks.due("5 a corner twice stays one", y.close(0), 0);
    }

    private static void theListIsGone() {
        EdgeJoins x = Situation.A_LIST.get();
        Sherds.extend(x, 2, "1223");
        Checks.due("5 the list ahead of it", x.count(2), 8);
        Checks.due("5 closes", x.close(2), 2);
        Checks.due("5 the list is gone", x.count(2), 0);
        Checks.refused("5 the list is gone", Checks.INDEX, x, y -> y.pair(0, 0));
        Checks.refused("5 the list is gone", Checks.INDEX, x, y -> y.join(0));
        EdgeJoins y = Situation.TREES.get();
        y.step(4, 3);
        Checks.due("5 one that fits no other", y.close(4), 1);
        Checks.due("5 the list is gone with it too", y.count(2), 0);
        Checks.due("5 the joins stay", y.count(3), 2);
        Sherds.placeIs("5 the trees stay", y, 2, 2, -1, 1, 1);
        Sherds.placeIs("5 it is unmoved", y, 4, 0, 0, 0, 4);
    }

    private static void theListStays() {
        Checks.changesNothing("5 two steps", Situation.A_LIST, x -> x.close(2));
        Checks.changesNothing("5 three steps", Situation.TREES, x -> x.close(4));
        EdgeJoins x = Situation.A_LIST.get();
        x.close(2);
        Checks.due("5 the list stays if it can't be", x.count(2), 8);
        x.close(0);
        Checks.due("5 the list stays if it was closed", x.count(2), 8);
    }

    private static void noSuchSherd() {
        for (Situation situation : Situation.values()) {
            for (int sherd : situation.noSherds()) {
                Checks.refused("5 sherd " + sherd + ", " + situation, Checks.INDEX, situation, x -> x.close(sherd));
            }
        }
        EdgeJoins x = Situation.OPEN_EDGES.get();
        Checks.due("5 the first sherd", x.close(0), 0);
        Checks.due("5 one between", x.close(2), 1);
        Checks.due("5 the last sherd", x.close(4), 0);
    }
}
