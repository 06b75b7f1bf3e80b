/** Promise 14: how many sherds, closed ones, told pairs and joins there are. */
public final class Promise14CountTest {
    public static void main(String[] args) {
        sherds();
        closedOnes();
        toldPairs();
        joins();
        noSuchWhat();
        changesNothing();
        Checks.end("promise 14");
    }

    private static void sherds() {
        EdgeJoins x = new EdgeJoins();
        for (int s = 0; s < 6; s++) {
            Checks.due("14 sherds", x.count(0), s);
            x.sherd();
        }
        Checks.due("14 six sherds", x.count(0), 6);
        Checks.refused("14 no seventh", Checks.STATE, x, EdgeJoins::sherd);
        Checks.due("14 still six sherds", x.count(0), 6);
        for (Situation situation : Situation.values()) {
            Checks.due("14 sherds, " + situation, situation.get().count(0), situation.sherds());
        }
    }

    private static void closedOnes() {
        EdgeJoins x = new EdgeJoins();
        for (int s = 0; s < 6; s++) {
            Sherds.open(x, Sherds.SQUARE.substring(0, 3));
            Checks.due("14 can't be closed", x.close(s), 0);
            Checks.due("14 not closed", x.count(1), s);
            x.step(s, 3);
            Checks.due("14 could be closed", x.count(1), s);
            x.close(s);
            Checks.due("14 closed", x.count(1), s + 1);
            x.close(s);
            Checks.due("14 closed, and not twice", x.count(1), s + 1);
        }
    }

    private static void toldPairs() {
        for (Situation situation : Situation.values()) {
            Checks.due("14 told, " + situation, situation.get().count(2), situation.told);
        }
        EdgeJoins x = Situation.A_LIST.get();
        Checks.due("14 with a list", x.count(2), 8);
        x.least(3);
        Checks.due("14 without one", x.count(2), 0);
        Checks.due("14 an empty one", x.run(), 0);
        Checks.due("14 an empty one", x.count(2), 0);
        EdgeJoins y = Situation.SIX.get();
        Checks.due("14 more than 100 are listed", y.run() > 100, true);
        Checks.due("14 100 are told", y.count(2), 100);
    }

    private static void joins() {
        EdgeJoins x = Sherds.listed(Sherds.SQUARE_2, Sherds.SQUARE_2, Sherds.SQUARE_2);
        Checks.due("14 none", x.count(3), 0);
        x.join(0);
        Checks.due("14 one", x.count(3), 1);
        Checks.due("14 just so", x.join(0), 3);
        Checks.due("14 otherwise", x.join(1), 2);
        Checks.due("14 overlap", x.join(4), 1);
        Checks.due("14 still one", x.count(3), 1);
        x.join(8 + 4);
        Checks.due("14 two", x.count(3), 2);
        x.undo();
        Checks.due("14 one is undone", x.count(3), 1);
        x.undo();
        Checks.due("14 both are undone", x.count(3), 0);
        x.undo();
        Checks.due("14 not below none", x.count(3), 0);
        Checks.due("14 with trees", Situation.TREES.get().count(3), 2);
    }

    private static void noSuchWhat() {
        for (Situation situation : Situation.values()) {
            for (int what : new int[] {-1, 4, 5, -4, Integer.MIN_VALUE, Integer.MAX_VALUE}) {
                Checks.refused("14 what " + what + ", " + situation, Checks.INDEX, situation, x -> x.count(what));
            }
        }
    }

    private static void changesNothing() {
        for (Situation situation : Situation.values()) {
            for (int what = 0; what < 4; what++) {
                int w = what;
                Checks.changesNothing("14 what " + w + ", " + situation, situation, x -> x.count(w));
            }
        }
    }
}
