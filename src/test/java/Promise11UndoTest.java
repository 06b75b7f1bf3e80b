/** Promise 11: the latest join that was not undone is undone: trees and places are as they were ahead of it. */
public final class Promise11UndoTest {
    public static void main(String[] args) {
        nothingToUndo();
        refusedJoinsAreNone();
        justOnce();
        latestFirst();
        wholeTreesGoBack();
        theFirstGoesBack();
        allFiveJoins();
        joinAfterUndo();
        sherdsMadeSince();
        closedSince();
        theRestStays();
        asIfNotJoined();
        Checks.end("promise 11");
    }

    private static void nothingToUndo() {
        for (Situation situation : Situation.values()) {
            if (situation != Situation.TREES && situation != Situation.SIX) {
                Checks.due("11 no join, " + situation, situation.get().undo(), false);
                Checks.changesNothing("11 no join, " + situation, situation, EdgeJoins::undo);
            }
        }
    }

    private static void refusedJoinsAreNone() {
        EdgeJoins x = Sherds.listed(Sherds.CUP, Sherds.SQUARE_2);
        Checks.due("11 overlaps", Sherds.join(x, 0, 1, 1, 6), 1);
        Checks.due("11 an overlap is no join", x.undo(), false);
        Checks.due("11 joins", Sherds.join(x, 0, 10, 1, 5), 0);
        Checks.due("11 just so", Sherds.join(x, 0, 10, 1, 5), 3);
        Checks.due("11 otherwise", Sherds.join(x, 0, 1, 1, 6), 2);
        Checks.refused("11 no pair", Checks.INDEX, x, y -> y.join(-1));
        Checks.due("11 one join", x.undo(), true);
        Sherds.placeIs("11 that one", x, 1, 0, 0, 0, 1);
        Checks.due("11 the others are none", x.undo(), false);
    }

    private static void justOnce() {
        EdgeJoins x = Situation.A_LIST.get();
        x.join(0);
        Checks.due("11 there was one", x.undo(), true);
        Checks.due("11 there is none", x.undo(), false);
        Checks.due("11 none again", x.undo(), false);
        Checks.due("11 no joins", x.count(3), 0);
        Sherds.placeIs("11 as ahead", x, 0, 0, 0, 0, 0);
        Sherds.placeIs("11 as ahead", x, 1, 0, 0, 0, 1);
    }

    private static void latestFirst() {
        EdgeJoins x = Trees.ring();
        Checks.due("11 three joins", x.count(3), 3);
        Checks.due("11 the third", x.undo(), true);
        Sherds.placeIs("11 the fourth hook is back", x, 3, 0, 0, 0, 3);
        Sherds.placeIs("11 the third hook stays", x, 2, 13, 11, 2, 0);
        Checks.due("11 the second", x.undo(), true);
        Sherds.placeIs("11 the third hook is back", x, 2, 0, 0, 0, 2);
        Sherds.placeIs("11 the second hook stays", x, 1, 12, -1, 1, 0);
        Checks.due("11 the first", x.undo(), true);
        Sherds.placeIs("11 the second hook is back", x, 1, 0, 0, 0, 1);
        Checks.due("11 no more", x.undo(), false);
    }

    private static void wholeTreesGoBack() {
        EdgeJoins x = Trees.fourHooks();
        Sherds.join(x, 2, 10, 3, 22);
        Sherds.join(x, 1, 10, 2, 22);
        Sherds.join(x, 0, 10, 1, 22);
        Sherds.placeIs("11 all in one tree", x, 3, 1, 12, 3, 0);
        Checks.due("11 the tree of three", x.undo(), true);
        Sherds.placeIs("11 first alone", x, 0, 0, 0, 0, 0);
        Sherds.placeIs("11 second unmoved", x, 1, 0, 0, 0, 1);
        Sherds.placeIs("11 third as ahead", x, 2, 12, -1, 1, 1);
        Sherds.placeIs("11 fourth as ahead", x, 3, 13, 11, 2, 1);
        Checks.due("11 the tree of two", x.undo(), true);
        Sherds.placeIs("11 third unmoved", x, 2, 0, 0, 0, 2);
        Sherds.placeIs("11 fourth beside it", x, 3, 12, -1, 1, 2);
    }

    private static void theFirstGoesBack() {
        EdgeJoins x = Trees.turnedTree();
        Checks.due("11 the tree of 0 and 2 moves", Sherds.join(x, 1, 2, 2, 5), 0);
        Sherds.placeIs("11 0 moved", x, 0, 3, 2, 3, 0);
        Checks.due("11 undone", x.undo(), true);
        Sherds.placeIs("11 0 is back", x, 0, 0, 0, 0, 0);
        Sherds.placeIs("11 2 is back, turned as it was", x, 2, 2, -1, 1, 0);
        Sherds.placeIs("11 1 is alone", x, 1, 0, 0, 0, 1);
    }

    private static void allFiveJoins() {
        EdgeJoins x = Sherds.allClosed(Sherds.SQUARE_3, Sherds.SQUARE_3, Sherds.SQUARE_3, Sherds.SQUARE_3,
            Sherds.SQUARE_3, Sherds.SQUARE_3);
        x.run();
        // Without heights 20 pairs have a = 0, i = 0; 60 more have a = 0. Then come 16 with a = 1, i = 0.
        int[] onEachSide = {1, 20 + 4, 40 + 8, 60 + 12};
        for (int k : onEachSide) {
            Checks.due("11 round the first", x.join(k), 0);
        }
        Checks.due("11 the sixth on the second", x.join(80 + 12), 0);
        Checks.due("11 five joins", x.count(3), 5);
        for (int joins = 4; joins >= 0; joins--) {
            Checks.due("11 one of five", x.undo(), true);
            Checks.due("11 so many are left", x.count(3), joins);
            Checks.due("11 this one is back", x.place(joins + 1, 3), joins + 1);
        }
        Checks.due("11 no sixth", x.undo(), false);
        for (int k : onEachSide) {
            Checks.due("11 round the first again", x.join(k), 0);
        }
        Checks.due("11 the sixth again", x.join(80 + 12), 0);
    }

    private static void joinAfterUndo() {
        EdgeJoins x = Sherds.listed(Sherds.SQUARE_2, Sherds.SQUARE_2);
        for (int round = 0; round < 20; round++) {
            Checks.due("11 joins", x.join(round % 16), 0);
            Checks.due("11 one join", x.count(3), 1);
            Checks.due("11 undone", x.undo(), true);
            Sherds.placeIs("11 back", x, 1, 0, 0, 0, 1);
        }
    }

    private static void sherdsMadeSince() {
        EdgeJoins x = Situation.A_LIST.get();
        x.join(0);
        int s = Sherds.open(x, Sherds.SQUARE);
        x.height(s, 1, 6);
        Checks.due("11 undone", x.undo(), true);
        Checks.due("11 a sherd made since stays", x.count(0), 4);
        Sherds.placeIs("11 a sherd made since", x, s, 0, 0, 0, s);
        Checks.due("11 its steps stay", x.close(s), 1);
        Checks.due("11 its height stays", x.height(s, 1, 0), 6);
    }

    private static void closedSince() {
        EdgeJoins x = Situation.A_LIST.get();
        x.join(0);
        Sherds.extend(x, 2, "1223");
        Checks.due("11 closed since", x.close(2), 2);
        Checks.due("11 undone", x.undo(), true);
        Checks.due("11 it stays closed", x.count(1), 3);
        Checks.refused("11 it takes no step", Checks.STATE, x, y -> y.step(2, 0));
    }

    private static void theRestStays() {
        EdgeJoins x = Situation.A_LIST.get();
        x.join(0);
        x.height(1, 0, 4);
        x.bound(200);
        x.least(3);
        Checks.due("11 without a list", x.undo(), true);
        Checks.due("11 no list", x.count(2), 0);
        Checks.due("11 the least stays", x.least(2), 3);
        Checks.due("11 the bound stays", x.bound(100), 200);
        Checks.due("11 the height stays", x.height(1, 0, 0), 4);
        x.run();
        x.join(3);
        x.undo();
        Checks.due("11 the list stays", x.count(2), 8);
        Checks.due("11 it can be joined", x.join(3), 0);
    }

    /** A join and its undoing together change nothing. */
    private static void asIfNotJoined() {
        Checks.changesNothing("11 a join undone, " + Situation.A_LIST, Situation.A_LIST, x -> {
            x.join(5);
            x.undo();
        });
        Checks.changesNothing("11 a join undone, " + Situation.TREES, Situation.TREES, x -> {
            x.join(13);
            x.undo();
        });
        Checks.changesNothing("11 a join undone, " + Situation.SIX, Situation.SIX, x -> {
            x.join(99);
            x.undo();
        });
    }
}
