/** Promise 4: heights 0 .. 99 of a sherd's steps; the list is gone with each. */
public final class Promise04HeightTest {
    private static final int[] NO_HEIGHTS = {-1, 100, 101, -99, Integer.MIN_VALUE, Integer.MAX_VALUE};

    public static void main(String[] args) {
        zeroAtFirst();
        whatItWas();
        leastAndGreatestHeight();
        firstAndLastStep();
        noSuchHeight();
        noSuchStep();
        noSuchSherd();
        theListIsGone();
        theRestStays();
        Checks.end("promise 4");
    }

    private static void zeroAtFirst() {
        EdgeJoins x = new EdgeJoins();
        Sherds.open(x, Sherds.STAIRS_28);
        for (int at = 0; at < 28; at++) {
            Checks.due("4 0 at first", x.height(0, at, at + 1), 0);
        }
        for (int at = 0; at < 28; at++) {
            Checks.due("4 each step its own", x.height(0, at, 0), at + 1);
        }
    }

    private static void whatItWas() {
        EdgeJoins x = Situation.A_LIST.get();
        Checks.due("4 what it was", x.height(0, 5, 30), 5);
        Checks.due("4 what it was then", x.height(0, 5, 30), 30);
        Checks.due("4 of a closed one, it stays", x.height(0, 5, 0), 30);
        Checks.due("4 another step's", x.height(0, 6, 0), 6);
        Checks.due("4 another sherd's", x.height(1, 5, 0), 6);
        Checks.due("4 an open edge's", x.height(2, 1, 8), 0);
        Sherds.extend(x, 2, "122");
        x.step(2, 3);
        Checks.due("4 closed", x.close(2), 2);
        Checks.due("4 it stays when the edge is closed", x.height(2, 1, 0), 8);
    }

    private static void leastAndGreatestHeight() {
        for (Situation situation : Situation.values()) {
            for (int s = 0; s < situation.sherds(); s++) {
                if (situation.stepsOf(s) > 0) {
                    EdgeJoins x = situation.get();
                    x.height(s, 0, 99);
                    Checks.due("4 the greatest height, " + situation, x.height(s, 0, 0), 99);
                    Checks.due("4 the least height, " + situation, x.height(s, 0, 1), 0);
                }
            }
        }
    }

    private static void firstAndLastStep() {
        for (Situation situation : Situation.values()) {
            for (int s = 0; s < situation.sherds(); s++) {
                int last = situation.stepsOf(s) - 1;
                if (last > 0) {
                    EdgeJoins x = situation.get();
                    x.height(s, 0, 41);
                    x.height(s, last, 42);
                    Checks.due("4 the first step's, " + situation, x.height(s, 0, 0), 41);
                    Checks.due("4 the last step's, " + situation, x.height(s, last, 0), 42);
                }
            }
        }
    }

    private static void noSuchHeight() {
        for (int v : NO_HEIGHTS) {
            Checks.refused("4 v, an open edge", Checks.ARGUMENT, Situation.OPEN_EDGES, x -> x.height(1, 2, v));
            Checks.refused("4 v, the 28th step", Checks.ARGUMENT, Situation.OPEN_EDGES, x -> x.height(4, 27, v));
            Checks.refused("4 v, with a list", Checks.ARGUMENT, Situation.A_LIST, x -> x.height(0, 7, v));
            Checks.refused("4 v, a list not to lose", Checks.ARGUMENT, Situation.A_LIST, x -> x.height(2, 0, v));
            Checks.refused("4 v, in a tree", Checks.ARGUMENT, Situation.TREES, x -> x.height(3, 0, v));
            Checks.refused("4 v, one of six", Checks.ARGUMENT, Situation.SIX, x -> x.height(0, 0, v));
        }
    }

    private static void noSuchStep() {
        for (Situation situation : Situation.values()) {
            for (int s = 0; s < situation.sherds(); s++) {
                for (int at : new int[] {-1, situation.stepsOf(s), 28, 29, Integer.MIN_VALUE, Integer.MAX_VALUE}) {
                    int sherd = s;
                    String sentence = "4 step " + at + " of " + s + ", " + situation;
                    Checks.refused(sentence, Checks.INDEX, situation, x -> x.height(sherd, at, 1));
                    Checks.refused(sentence + ", and v", Checks.INDEX, situation, x -> x.height(sherd, at, 100));
                }
            }
        }
        EdgeJoins x = Situation.OPEN_EDGES.get();
        x.step(1, 3);
        Checks.due("4 a step that came since", x.height(1, 3, 1), 0);
    }

    private static void noSuchSherd() {
        for (Situation situation : Situation.values()) {
            for (int sherd : situation.noSherds()) {
                String sentence = "4 sherd " + sherd + ", " + situation;
                Checks.refused(sentence, Checks.INDEX, situation, x -> x.height(sherd, 0, 0));
                Checks.refused(sentence + ", and v", Checks.INDEX, situation, x -> x.height(sherd, 0, -1));
                Checks.refused(sentence + ", and step", Checks.INDEX, situation, x -> x.height(sherd, -1, 100));
            }
        }
    }

    private static void theListIsGone() {
        goneWith("4 with another height", 0, 0, 50);
        goneWith("4 with the height that it was", 0, 3, 3);
        goneWith("4 with an open edge's height", 2, 0, 1);
        goneWith("4 with an open edge's height that it was", 2, 0, 0);
    }

    private static void goneWith(String sentence, int sherd, int at, int v) {
        EdgeJoins x = Situation.A_LIST.get();
        Checks.due(sentence + ": the list ahead of it", x.count(2), 8);
        x.height(sherd, at, v);
        Checks.due(sentence + ": no pairs", x.count(2), 0);
        Checks.refused(sentence + ": no pair", Checks.INDEX, x, y -> y.pair(0, 0));
        Checks.refused(sentence + ": no pair to join", Checks.INDEX, x, y -> y.join(0));
        x.run();
        Checks.due(sentence + ": a list again", x.count(2) > 0, true);
    }

    private static void theRestStays() {
        EdgeJoins x = Situation.TREES.get();
        x.height(2, 0, 9);
        Checks.due("4 the joins stay", x.count(3), 2);
        Sherds.placeIs("4 the trees stay", x, 2, 2, -1, 1, 1);
        Checks.due("4 the joins can be undone", x.undo(), true);
        Checks.due("4 the height stays then", x.height(2, 0, 0), 9);
        Checks.due("4 the least stays", x.least(2), 2);
        Checks.due("4 the bound stays", x.bound(100), 100);
    }
}
