/** Promise 2: sherds 0 .. 5, without steps; the seventh is refused. */
public final class Promise02SherdTest {
    public static void main(String[] args) {
        numbers();
        numbersGoOn();
        theSeventh();
        withoutSteps();
        unmoved();
        theRestStays();
        Checks.end("promise 2");
    }

    private static void numbers() {
        EdgeJoins x = new EdgeJoins();
        for (int s = 0; s < 6; s++) {
            Checks.due("2 its number", x.sherd(), s);
            Checks.due("2 how many there are", x.count(0), s + 1);
        }
        Checks.refused("2 the seventh", Checks.STATE, x, EdgeJoins::sherd);
        Checks.refused("2 the seventh again", Checks.STATE, x, EdgeJoins::sherd);
        Checks.due("2 still six", x.count(0), 6);
        Checks.due("2 the sixth takes steps", x.step(5, 0), 1);
    }

    private static void numbersGoOn() {
        for (Situation situation : Situation.values()) {
            if (situation != Situation.SIX) {
                Checks.due("2 the next number, " + situation, situation.get().sherd(), situation.sherds());
            }
        }
    }

    private static void theSeventh() {
        Checks.refused("2 the seventh, none with steps", Checks.STATE, Situation::sixWithoutSteps, EdgeJoins::sherd);
        Checks.refused("2 the seventh, all closed", Checks.STATE, Situation.SIX, EdgeJoins::sherd);
    }

    private static void withoutSteps() {
        for (Situation situation : new Situation[] {Situation.NEW, Situation.OPEN_EDGES, Situation.TREES}) {
            EdgeJoins x = situation.get();
            int closedOnes = x.count(1);
            int s = x.sherd();
            Checks.refused("2 no step with a height", Checks.INDEX, x, y -> y.height(s, 0, 0));
            Checks.due("2 can't be closed", x.close(s), 0);
            Checks.due("2 is not closed", x.count(1), closedOnes);
            Checks.due("2 has no holes", x.holes(s), 0);
            Checks.due("2 its first step", x.step(s, 2), 1);
            Checks.due("2 its first step's height", x.height(s, 0, 1), 0);
        }
    }

    private static void unmoved() {
        for (Situation situation : new Situation[] {Situation.NEW, Situation.OPEN_EDGES, Situation.TREES}) {
            EdgeJoins x = situation.get();
            int s = x.sherd();
            Sherds.placeIs("2 unmoved, a tree of its own", x, s, 0, 0, 0, s);
        }
    }

    private static void theRestStays() {
        EdgeJoins x = Situation.TREES.get();
        x.sherd();
        Checks.due("2 the list stays", x.count(2), Situation.TREES.told);
        Sherds.pairIs("2 the list stays", x, 71, 2, 4, 3, 7, 2, 0);
        Checks.due("2 the joins stay", x.count(3), 2);
        Sherds.placeIs("2 the trees stay", x, 2, 2, -1, 1, 1);
    }
}
