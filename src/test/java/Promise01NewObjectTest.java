/** Promise 1: a new object has no sherds; and what the terms say of a new object. */
public final class Promise01NewObjectTest {
    public static void main(String[] args) {
        noSherds();
        noSherdIsThere();
        noList();
        noJoins();
        leastAtFirst();
        boundAtFirst();
        objectsAreApart();
        Checks.end("promise 1");
    }

    private static void noSherds() {
        EdgeJoins x = new EdgeJoins();
        Checks.due("1 no sherds", x.count(0), 0);
        Checks.due("1 no closed ones", x.count(1), 0);
        Checks.due("1 the first sherd is 0", x.sherd(), 0);
    }

    private static void noSherdIsThere() {
        for (int sherd : Situation.NEW.noSherds()) {
            Checks.refused("1 no sherd to step", Checks.INDEX, Situation.NEW, x -> x.step(sherd, 0));
            Checks.refused("1 no sherd with a height", Checks.INDEX, Situation.NEW, x -> x.height(sherd, 0, 0));
            Checks.refused("1 no sherd to close", Checks.INDEX, Situation.NEW, x -> x.close(sherd));
            Checks.refused("1 no sherd with a place", Checks.INDEX, Situation.NEW, x -> x.place(sherd, 0));
            Checks.refused("1 no sherd with holes", Checks.INDEX, Situation.NEW, x -> x.holes(sherd));
        }
    }

    private static void noList() {
        EdgeJoins x = new EdgeJoins();
        Checks.due("1 no pairs", x.count(2), 0);
        Checks.refused("1 no pair", Checks.INDEX, Situation.NEW, y -> y.pair(0, 0));
        Checks.refused("1 no pair to join", Checks.INDEX, Situation.NEW, y -> y.join(0));
        Checks.due("1 nothing to list", x.run(), 0);
        Checks.changesNothing("1 the list of nothing", Situation.NEW, EdgeJoins::run);
    }

    private static void noJoins() {
        EdgeJoins x = new EdgeJoins();
        Checks.due("1 no joins", x.count(3), 0);
        Checks.due("1 no join to undo", x.undo(), false);
        Checks.changesNothing("1 no join to undo", Situation.NEW, EdgeJoins::undo);
    }

    private static void leastAtFirst() {
        Checks.due("1 the least at first", new EdgeJoins().least(20), 3);
        Checks.due("1 n 3 at first", Sherds.allClosed(Sherds.SQUARE_3, Sherds.SQUARE_3).run(), 16);
        Checks.due("1 n 2 at first", Sherds.allClosed(Sherds.SQUARE_2, Sherds.SQUARE_2).run(), 0);
    }

    private static void boundAtFirst() {
        Checks.due("1 the bound at first", new EdgeJoins().bound(0), 100);
        // The heights of a side of 3 steps; the other sides have 99, which is too much.
        Checks.due("1 100 * 3 at first", listedWith(10, 10, 10), 4);
        Checks.due("1 100 * 3 and 1 at first", listedWith(12, 11, 6), 0);
    }

    private static int listedWith(int first, int second, int third) {
        EdgeJoins x = Sherds.allClosed(Sherds.SQUARE_3, Sherds.SQUARE_3);
        Sherds.heights(x, 0, first, second, third, 99, 99, 99, 99, 99, 99, 99, 99, 99);
        return x.run();
    }

    private static void objectsAreApart() {
        EdgeJoins x = new EdgeJoins();
        Situation.TREES.get();
        Checks.due("1 no sherds, though another has some", x.count(0), 0);
        Checks.due("1 no pairs, though another has some", x.count(2), 0);
        Checks.due("1 no joins, though another has some", x.count(3), 0);
        Checks.due("1 the least, though another has 2", x.least(3), 3);
    }
}
