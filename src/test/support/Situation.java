import java.util.function.Supplier;

/** States of an object from which calls are refused, and what is known of each. */
enum Situation implements Supplier<EdgeJoins> {
    NEW(0) {
        @Override
        public EdgeJoins get() {
            return new EdgeJoins();
        }
    },
    /** No step; three steps; four that could be closed; 27 and 28 steps. */
    OPEN_EDGES(0, 0, 3, 4, 27, 28) {
        @Override
        public EdgeJoins get() {
            EdgeJoins x = new EdgeJoins();
            x.sherd();
            Sherds.open(x, "012");
            Sherds.open(x, Sherds.SQUARE);
            Sherds.open(x, Sherds.STAIRS_28.substring(0, 27));
            Sherds.open(x, Sherds.STAIRS_28);
            x.height(1, 2, 7);
            x.least(5);
            x.bound(17);
            return x;
        }
    },
    /** Two that fit, and an open edge. */
    A_LIST(8, 8, 6, 2) {
        @Override
        public EdgeJoins get() {
            EdgeJoins x = Sherds.allClosed(Sherds.SQUARE_2, Sherds.UPRIGHT);
            Sherds.open(x, "00");
            Sherds.heights(x, 0, 0, 1, 2, 3, 4, 5, 6, 7);
            Sherds.heights(x, 1, 0, 0, 9, 8, 7, 6);
            x.least(2);
            x.run();
            return x;
        }
    },
    AN_EMPTY_LIST(0, 8, 8) {
        @Override
        public EdgeJoins get() {
            EdgeJoins x = Sherds.allClosed(Sherds.SQUARE_2, Sherds.SQUARE_2);
            x.run();
            return x;
        }
    },
    A_LIST_THAT_IS_GONE(0, 8, 6, 2) {
        @Override
        public EdgeJoins get() {
            EdgeJoins x = A_LIST.get();
            x.height(2, 1, 3);
            return x;
        }
    },
    /** Two trees, of 0 and 3 and of 1 and 2; another join was undone. */
    TREES(72, 8, 8, 6, 8, 3) {
        @Override
        public EdgeJoins get() {
            EdgeJoins x = Sherds.allClosed(Sherds.SQUARE_2, Sherds.SQUARE_2, Sherds.UPRIGHT, Sherds.SQUARE_2);
            Sherds.open(x, "012");
            x.height(4, 1, 5);
            x.least(2);
            x.run();
            // 0 has 40 pairs, 10 of each side: 0, 0, 3, 3 is the eighth, 0, 2, 1, 7 the fourteenth; then comes 1, 0, 2, 2.
            x.join(7);
            x.join(40);
            x.join(13);
            x.undo();
            return x;
        }
    },
    /** Six, and more pairs than are told. */
    SIX(100, 12, 12, 12, 12, 12, 12) {
        @Override
        public EdgeJoins get() {
            EdgeJoins x = Sherds.allClosed(Sherds.SQUARE_3, Sherds.SQUARE_3, Sherds.SQUARE_3, Sherds.SQUARE_3,
                Sherds.SQUARE_3, Sherds.SQUARE_3);
            x.height(0, 0, 3);
            x.height(5, 11, 4);
            x.bound(9);
            x.run();
            x.join(0);
            return x;
        }
    };

    final int told;
    private final int[] steps;

    Situation(int told, int... steps) {
        this.told = told;
        this.steps = steps;
    }

    int sherds() {
        return steps.length;
    }

    int stepsOf(int sherd) {
        return steps[sherd];
    }

    /** Numbers that are none of its sherds: those next to them, and far ones. */
    int[] noSherds() {
        return new int[] {-1, sherds(), 6, 7, Integer.MIN_VALUE, Integer.MAX_VALUE, 1 << 31 | 1, 1 << 16};
    }

    /** Numbers that are none of its pairs. */
    int[] noPairs() {
        return new int[] {-1, told, told + 1, 100, 101, 1024, Integer.MIN_VALUE, Integer.MAX_VALUE};
    }

    static EdgeJoins sixWithoutSteps() {
        EdgeJoins x = new EdgeJoins();
        for (int s = 0; s < 6; s++) {
            x.sherd();
        }
        return x;
    }
}
