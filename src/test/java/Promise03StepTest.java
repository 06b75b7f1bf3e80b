/** Promise 3: steps 0 .. 3 behind the others, at most 28, none at a closed edge. */
public final class Promise03StepTest {
    private static final int[] NO_STEPS = {-1, 4, 5, -4, Integer.MIN_VALUE, Integer.MAX_VALUE};

    public static void main(String[] args) {
        howManyThereAre();
        eachSherdItsOwn();
        theTwentyNinth();
        closedOnes();
        noSuchStep();
        noSuchSherd();
        stateAheadOfArgument();
        behindTheOthers();
        heightsAtFirst();
        notYetClosed();
        theRestStays();
        Checks.end("promise 3");
    }

    private static void howManyThereAre() {
        EdgeJoins x = new EdgeJoins();
        x.sherd();
        for (int n = 1; n <= 28; n++) {
            Checks.due("3 how many there are", x.step(0, n & 3), n);
        }
        Checks.refused("3 the 29th", Checks.STATE, x, y -> y.step(0, 0));
        Checks.refused("3 the 29th again", Checks.STATE, x, y -> y.step(0, 0));
        Checks.due("3 the 28th is there", x.height(0, 27, 1), 0);
        Checks.refused("3 the 29th is not there", Checks.INDEX, x, y -> y.height(0, 28, 1));
    }

    private static void eachSherdItsOwn() {
        EdgeJoins x = Situation.OPEN_EDGES.get();
        for (int s = 0; s < 4; s++) {
            Checks.due("3 of this sherd", x.step(s, 3), Situation.OPEN_EDGES.stepsOf(s) + 1);
        }
    }

    private static void theTwentyNinth() {
        for (int d = 0; d < 4; d++) {
            int with = d;
            Checks.due("3 the 28th", Situation.OPEN_EDGES.get().step(3, with), 28);
            Checks.refused("3 the 29th", Checks.STATE, Situation.OPEN_EDGES, x -> x.step(4, with));
        }
    }

    private static void closedOnes() {
        for (int d = 0; d < 4; d++) {
            int with = d;
            Checks.refused("3 closed, with a list", Checks.STATE, Situation.A_LIST, x -> x.step(0, with));
            Checks.refused("3 closed, in a tree", Checks.STATE, Situation.TREES, x -> x.step(3, with));
            Checks.refused("3 closed, one of six", Checks.STATE, Situation.SIX, x -> x.step(5, with));
        }
        Checks.refused("3 closed with 4", Checks.STATE, () -> Sherds.allClosed(Sherds.SQUARE), x -> x.step(0, 0));
        Checks.refused("3 closed with 28", Checks.STATE, () -> Sherds.allClosed(Sherds.UPPER_PART), x -> x.step(0, 0));
    }

    private static void noSuchStep() {
        for (int d : NO_STEPS) {
            Checks.refused("3 d at no steps", Checks.ARGUMENT, Situation.OPEN_EDGES, x -> x.step(0, d));
            Checks.refused("3 d at an edge to close", Checks.ARGUMENT, Situation.OPEN_EDGES, x -> x.step(2, d));
            Checks.refused("3 d at 27 steps", Checks.ARGUMENT, Situation.OPEN_EDGES, x -> x.step(3, d));
            Checks.refused("3 d beside a list", Checks.ARGUMENT, Situation.A_LIST, x -> x.step(2, d));
            Checks.refused("3 d beside trees", Checks.ARGUMENT, Situation.TREES, x -> x.step(4, d));
        }
        for (int d = 0; d < 4; d++) {
            Checks.due("3 d 0 .. 3", Situation.OPEN_EDGES.get().step(0, d), 1);
        }
    }

    private static void noSuchSherd() {
        for (Situation situation : Situation.values()) {
            for (int sherd : situation.noSherds()) {
                Checks.refused("3 sherd, " + situation, Checks.INDEX, situation, x -> x.step(sherd, 0));
                Checks.refused("3 sherd ahead of d, " + situation, Checks.INDEX, situation, x -> x.step(sherd, 4));
            }
        }
        EdgeJoins x = Situation.sixWithoutSteps();
        Checks.due("3 the first sherd", x.step(0, 0), 1);
        Checks.due("3 the last sherd", x.step(5, 0), 1);
    }

    private static void stateAheadOfArgument() {
        for (int d : NO_STEPS) {
            Checks.refused("3 has 28, and d", Checks.STATE, Situation.OPEN_EDGES, x -> x.step(4, d));
            Checks.refused("3 closed, and d", Checks.STATE, Situation.A_LIST, x -> x.step(1, d));
            Checks.refused("3 closed, and d, in a tree", Checks.STATE, Situation.TREES, x -> x.step(0, d));
        }
    }

    private static void behindTheOthers() {
        // In this order alone the steps go round one cell.
        EdgeJoins x = new EdgeJoins();
        x.sherd();
        x.step(0, 1);
        x.step(0, 2);
        x.step(0, 3);
        x.step(0, 0);
        Checks.due("3 behind the others", x.close(0), 1);
    }

    private static void heightsAtFirst() {
        EdgeJoins x = new EdgeJoins();
        Sherds.open(x, "012");
        x.height(0, 2, 99);
        x.step(0, 3);
        Checks.due("3 a new step's height", x.height(0, 3, 5), 0);
        Checks.due("3 the height ahead of it", x.height(0, 2, 0), 99);
    }

    private static void notYetClosed() {
        EdgeJoins x = Situation.OPEN_EDGES.get();
        Checks.due("3 back where it began, but open", x.step(2, 0), 5);
        Checks.due("3 can't be closed", x.close(1), 0);
        Checks.due("3 open when it can't be closed", x.step(1, 3), 4);
        Checks.due("3 closed now", x.close(1), 1);
        Checks.refused("3 closed by now", Checks.STATE, x, y -> y.step(1, 0));
    }

    private static void theRestStays() {
        EdgeJoins x = Situation.TREES.get();
        x.step(4, 3);
        Checks.due("3 the list stays", x.count(2), Situation.TREES.told);
        Checks.due("3 the joins stay", x.count(3), 2);
        Sherds.placeIs("3 the trees stay", x, 3, 2, -2, 1, 0);
    }
}
