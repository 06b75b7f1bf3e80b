public final class EdgeJoins {
    public static final int NONE = -1;

    private static final int MOST_SHERDS = 6;
    private static final int FEWEST_STEPS = 4;
    private static final int MOST_STEPS = 28;
    private static final int MOST_HEIGHT = 99;
    private static final int LOWEST_LEAST = 2;
    private static final int HIGHEST_LEAST = 20;
    private static final int HIGHEST_BOUND = 9801;
    private static final int MOST_TOLD = 100;

    private static final int JOINED = 0;
    private static final int OVERLAP = 1;
    private static final int LIES_OTHERWISE = 2;
    private static final int LIES_JUST_SO = 3;

    private static final int[] STEP_X = {1, 0, -1, 0};
    private static final int[] STEP_Y = {0, 1, 0, -1};

    private final Edge[] edges = new Edge[MOST_SHERDS];
    private final Layout layout = new Layout();
    private final Layout[] earlier = new Layout[MOST_SHERDS];
    private final Ranking ranking = new Ranking();
    private final Board board = new Board();
    private int sherds = 0;
    private int closedSherds = 0;
    private int joins = 0;
    private int leastSteps = 3;
    private int boundPerStep = 100;

    public EdgeJoins() {
        for (int s = 0; s < MOST_SHERDS; s++) {
            edges[s] = new Edge();
            earlier[s] = new Layout();
        }
    }

    public int sherd() throws IllegalStateException {
        if (sherds >= MOST_SHERDS) {
            throw new IllegalStateException("there are six sherds");
        }
        sherds++;
        return sherds - 1;
    }

    public int step(int sherd, int d) throws IndexOutOfBoundsException, IllegalStateException, IllegalArgumentException {
        Edge edge = edgeOf(sherd);
        if (edge.closed || edge.size >= MOST_STEPS) {
            throw new IllegalStateException("the edge takes no more steps");
        }
        if (d < 0 || d > 3) {
            throw new IllegalArgumentException("a step is 0 .. 3");
        }
        edge.append(d);
        return edge.size;
    }

    public int height(int sherd, int at, int v) throws IndexOutOfBoundsException, IllegalArgumentException {
        Edge edge = edgeOf(sherd);
        if (at < 0 || at >= edge.size) {
            throw new IndexOutOfBoundsException("no such step");
        }
        if (v < 0 || v > MOST_HEIGHT) {
            throw new IllegalArgumentException("a height is 0 .. 99");
        }
        int old = edge.heights[at];
        edge.heights[at] = v;
        ranking.clear();
        return old;
    }

    public int close(int sherd) throws IndexOutOfBoundsException {
        Edge edge = edgeOf(sherd);
        if (edge.closed || !edge.canBeClosed()) {
            return 0;
        }
        edge.closed = true;
        closedSherds++;
        ranking.clear();
        return edge.area();
    }

    public int least(int n) throws IllegalArgumentException {
        if (n < LOWEST_LEAST || n > HIGHEST_LEAST) {
            throw new IllegalArgumentException("the least is 2 .. 20");
        }
        int old = leastSteps;
        leastSteps = n;
        ranking.clear();
        return old;
    }

    public int bound(int v) throws IllegalArgumentException {
        if (v < 0 || v > HIGHEST_BOUND) {
            throw new IllegalArgumentException("the bound is 0 .. 9801");
        }
        int old = boundPerStep;
        boundPerStep = v;
        ranking.clear();
        return old;
    }

    public int run() {
        ranking.clear();
        int found = 0;
        // In the order a, i, b, j, which the ranking needs for its ties.
        for (int a = 0; a < sherds; a++) {
            for (int i = 0; edges[a].closed && i < edges[a].size; i++) {
                for (int b = a + 1; b < sherds; b++) {
                    found += listPairsWith(a, i, b);
                }
            }
        }
        return found;
    }

    public int pair(int k, int what) throws IndexOutOfBoundsException {
        Pair told = toldPair(k);
        switch (what) {
            case 0: return told.a;
            case 1: return told.i;
            case 2: return told.b;
            case 3: return told.j;
            case 4: return told.n;
            case 5: return told.sum;
            default: throw new IndexOutOfBoundsException("no such what of a pair");
        }
    }

    public int join(int k) throws IndexOutOfBoundsException {
        Pair fit = toldPair(k);
        Edge moving = edges[fit.b];
        int quarters = (layout.quarters[fit.a] + fit.quarters) & 3;
        // Contrary steps run towards each other: b's step ends where a's begins.
        int endX = moving.cornerX[fit.j + 1];
        int endY = moving.cornerY[fit.j + 1];
        int x = layout.placedX(edges[fit.a], fit.a, fit.i) - turnedX(endX, endY, quarters);
        int y = layout.placedY(edges[fit.a], fit.a, fit.i) - turnedY(endX, endY, quarters);
        if (layout.tree[fit.a] == layout.tree[fit.b]) {
            return layout.lies(fit.b, x, y, quarters) ? LIES_JUST_SO : LIES_OTHERWISE;
        }
        return tryToJoin(fit, x, y, quarters);
    }

    public boolean undo() {
        if (joins == 0) {
            return false;
        }
        joins--;
        layout.copy(earlier[joins]);
        return true;
    }

    public int place(int sherd, int what) throws IndexOutOfBoundsException {
        if (!isSherd(sherd)) {
            throw new IndexOutOfBoundsException("no such sherd");
        }
        switch (what) {
            case 0: return layout.x[sherd];
            case 1: return layout.y[sherd];
            case 2: return layout.quarters[sherd];
            case 3: return layout.tree[sherd];
            default: throw new IndexOutOfBoundsException("no such what of a place");
        }
    }

    public int holes(int sherd) throws IndexOutOfBoundsException {
        if (!edgeOf(sherd).closed) {
            return 0;
        }
        board.lay(edges, layout, layout.tree[sherd]);
        return board.enclosedCells();
    }

    public int count(int what) throws IndexOutOfBoundsException {
        switch (what) {
            case 0: return sherds;
            case 1: return closedSherds;
            case 2: return ranking.size;
            case 3: return joins;
            default: throw new IndexOutOfBoundsException("no such what of a count");
        }
    }

    private boolean isSherd(int sherd) {
        return sherd >= 0 && sherd < sherds;
    }

    private Edge edgeOf(int sherd) {
        if (!isSherd(sherd)) {
            throw new IndexOutOfBoundsException("no such sherd");
        }
        return edges[sherd];
    }

    private Pair toldPair(int k) {
        if (k < 0 || k >= ranking.size) {
            throw new IndexOutOfBoundsException("no such pair");
        }
        return ranking.told[k];
    }

    private int listPairsWith(int a, int i, int b) {
        if (!edges[b].closed) {
            return 0;
        }
        int found = 0;
        for (int j = 0; j < edges[b].size; j++) {
            if (listIfPair(a, i, b, j)) {
                found++;
            }
        }
        return found;
    }

    private boolean listIfPair(int a, int i, int b, int j) {
        Edge first = edges[a];
        Edge second = edges[b];
        int quarters = (first.steps[i] + 2 - second.steps[j]) & 3;
        if (contrary(first.steps[first.before(i)], second.steps[second.after(j)], quarters)) {
            return false;
        }
        int n = stretch(first, i, second, j, quarters);
        if (n < leastSteps) {
            return false;
        }
        int sum = squares(first, i, second, j, n);
        if (sum > boundPerStep * n) {
            return false;
        }
        ranking.offer(a, i, b, j, n, sum, quarters);
        return true;
    }

    private static boolean contrary(int stepOfA, int stepOfB, int quarters) {
        return ((stepOfB + quarters) & 3) == ((stepOfA + 2) & 3);
    }

    private static int stretch(Edge first, int i, Edge second, int j, int quarters) {
        int most = Math.min(first.size, second.size);
        int n = 0;
        while (n < most && contrary(first.steps[i], second.steps[j], quarters)) {
            n++;
            i = first.after(i);
            j = second.before(j);
        }
        return n;
    }

    private static int squares(Edge first, int i, Edge second, int j, int n) {
        int sum = 0;
        for (int k = 0; k < n; k++) {
            int difference = first.heights[i] - second.heights[j];
            sum += difference * difference;
            i = first.after(i);
            j = second.before(j);
        }
        return sum;
    }

    private int tryToJoin(Pair fit, int x, int y, int quarters) {
        // Each join leaves one tree fewer, so that this room never runs out.
        if (joins >= earlier.length) {
            return OVERLAP;
        }
        earlier[joins].copy(layout);
        layout.bring(fit.b, x, y, quarters);
        layout.unite(fit.a, fit.b);
        board.lay(edges, layout, layout.tree[fit.a]);
        if (board.hasOverlap()) {
            layout.copy(earlier[joins]);
            return OVERLAP;
        }
        joins++;
        return JOINED;
    }

    private static int turnedX(int x, int y, int quarters) {
        switch (quarters & 3) {
            case 0: return x;
            case 1: return -y;
            case 2: return -x;
            default: return y;
        }
    }

    private static int turnedY(int x, int y, int quarters) {
        switch (quarters & 3) {
            case 0: return y;
            case 1: return x;
            case 2: return -y;
            default: return -x;
        }
    }

    private static final class Edge {
        private final int[] steps = new int[MOST_STEPS];
        private final int[] heights = new int[MOST_STEPS];
        // One corner more than steps: the last is where the last step ends.
        private final int[] cornerX = new int[MOST_STEPS + 1];
        private final int[] cornerY = new int[MOST_STEPS + 1];
        private int size = 0;
        private boolean closed = false;

        private void append(int d) {
            if (size >= MOST_STEPS) {
                return;
            }
            steps[size] = d;
            cornerX[size + 1] = cornerX[size] + STEP_X[d & 3];
            cornerY[size + 1] = cornerY[size] + STEP_Y[d & 3];
            size++;
        }

        private int after(int at) {
            return at + 1 < size ? at + 1 : 0;
        }

        private int before(int at) {
            return at > 0 ? at - 1 : size - 1;
        }

        private boolean canBeClosed() {
            return size >= FEWEST_STEPS
                && cornerX[size] == 0 && cornerY[size] == 0
                && !comesToACornerTwice()
                && area() > 0;
        }

        private boolean comesToACornerTwice() {
            for (int one = 0; one < size; one++) {
                for (int other = one + 1; other < size; other++) {
                    if (cornerX[one] == cornerX[other] && cornerY[one] == cornerY[other]) {
                        return true;
                    }
                }
            }
            return false;
        }

        // Below 0 if the edge goes round against the clock.
        private int area() {
            int area = 0;
            for (int at = 0; at < size; at++) {
                area += cornerX[at] * STEP_Y[steps[at] & 3];
            }
            return area;
        }
    }

    private static final class Layout {
        private final int[] x = new int[MOST_SHERDS];
        private final int[] y = new int[MOST_SHERDS];
        private final int[] quarters = new int[MOST_SHERDS];
        // A tree's name is its least sherd.
        private final int[] tree = new int[MOST_SHERDS];

        private Layout() {
            for (int s = 0; s < MOST_SHERDS; s++) {
                tree[s] = s;
            }
        }

        private void copy(Layout other) {
            for (int s = 0; s < MOST_SHERDS; s++) {
                x[s] = other.x[s];
                y[s] = other.y[s];
                quarters[s] = other.quarters[s];
                tree[s] = other.tree[s];
            }
        }

        private int placedX(Edge edge, int sherd, int corner) {
            return x[sherd] + turnedX(edge.cornerX[corner], edge.cornerY[corner], quarters[sherd]);
        }

        private int placedY(Edge edge, int sherd, int corner) {
            return y[sherd] + turnedY(edge.cornerX[corner], edge.cornerY[corner], quarters[sherd]);
        }

        private boolean lies(int sherd, int atX, int atY, int turnedBy) {
            return x[sherd] == atX && y[sherd] == atY && quarters[sherd] == turnedBy;
        }

        private void bring(int sherd, int toX, int toY, int toQuarters) {
            int turn = (toQuarters - quarters[sherd]) & 3;
            int shiftX = toX - turnedX(x[sherd], y[sherd], turn);
            int shiftY = toY - turnedY(x[sherd], y[sherd], turn);
            for (int s = 0; s < MOST_SHERDS; s++) {
                if (tree[s] == tree[sherd]) {
                    int oldX = x[s];
                    int oldY = y[s];
                    x[s] = turnedX(oldX, oldY, turn) + shiftX;
                    y[s] = turnedY(oldX, oldY, turn) + shiftY;
                    quarters[s] = (quarters[s] + turn) & 3;
                }
            }
        }

        private void unite(int one, int other) {
            int name = Math.min(tree[one], tree[other]);
            int lost = Math.max(tree[one], tree[other]);
            for (int s = 0; s < MOST_SHERDS; s++) {
                if (tree[s] == lost) {
                    tree[s] = name;
                }
            }
        }
    }

    private static final class Pair {
        private int a;
        private int i;
        private int b;
        private int j;
        private int n;
        private int sum;
        private int quarters;

        private void become(int a, int i, int b, int j, int n, int sum, int quarters) {
            this.a = a;
            this.i = i;
            this.b = b;
            this.j = j;
            this.n = n;
            this.sum = sum;
            this.quarters = quarters;
        }

        // By products instead of quotients, which would round. Pairs come in
        // the order a, i, b, j, so that of equals the one already told is first.
        private boolean ranksAhead(Pair earlier) {
            int mine = sum * earlier.n;
            int others = earlier.sum * n;
            return mine != others ? mine < others : n > earlier.n;
        }
    }

    private static final class Ranking {
        // One more than are told: the newcomer, or the one that it drives out.
        private final Pair[] told = new Pair[MOST_TOLD + 1];
        private int size = 0;

        private Ranking() {
            for (int k = 0; k <= MOST_TOLD; k++) {
                told[k] = new Pair();
            }
        }

        private void clear() {
            size = 0;
        }

        private void offer(int a, int i, int b, int j, int n, int sum, int quarters) {
            Pair fresh = told[size];
            fresh.become(a, i, b, j, n, sum, quarters);
            int at = size;
            while (at > 0 && fresh.ranksAhead(told[at - 1])) {
                told[at] = told[at - 1];
                at--;
            }
            told[at] = fresh;
            if (size < MOST_TOLD) {
                size++;
            }
        }
    }

    /** A tree's least box with a ring of empty cells round it, and how many sherds each cell is of. */
    private static final class Board {
        // An edge of 28 steps has a box whose sides sum up to at most 14, and
        // sherds of a tree touch: six have at most 84, with the ring 88.
        private static final int MOST_CELLS = 44 * 44;
        private static final int OUTSIDE = -1;

        private final int[] cover = new int[MOST_CELLS];
        private final int[] reached = new int[MOST_CELLS];
        private int left;
        private int top;
        private int width;
        private int cells;

        private void lay(Edge[] edges, Layout layout, int tree) {
            frame(edges, layout, tree);
            for (int at = 0; at < cells; at++) {
                cover[at] = 0;
            }
            for (int s = 0; s < MOST_SHERDS; s++) {
                if (layout.tree[s] == tree) {
                    markSides(edges[s], layout, s);
                }
            }
            // The ring is empty, so that a row's sum is 0 again where it ends.
            for (int at = 1; at < cells; at++) {
                cover[at] += cover[at - 1];
            }
        }

        private void frame(Edge[] edges, Layout layout, int tree) {
            left = layout.x[tree];
            top = layout.y[tree];
            int right = left;
            int bottom = top;
            for (int s = 0; s < MOST_SHERDS; s++) {
                for (int at = 0; layout.tree[s] == tree && at < edges[s].size; at++) {
                    int x = layout.placedX(edges[s], s, at);
                    int y = layout.placedY(edges[s], s, at);
                    left = Math.min(left, x);
                    right = Math.max(right, x);
                    top = Math.min(top, y);
                    bottom = Math.max(bottom, y);
                }
            }
            left--;
            top--;
            width = right + 1 - left;
            cells = Math.min(width * (bottom + 1 - top), MOST_CELLS);
        }

        // An edge goes clockwise: right of a step up it has its cells, right
        // of a step down it has them no more.
        private void markSides(Edge edge, Layout layout, int sherd) {
            for (int at = 0; at < edge.size; at++) {
                int d = (edge.steps[at] + layout.quarters[sherd]) & 3;
                int x = layout.placedX(edge, sherd, at);
                int y = layout.placedY(edge, sherd, at);
                if (d == 3) {
                    mark(x, y - 1, 1);
                } else if (d == 1) {
                    mark(x, y, -1);
                }
            }
        }

        private void mark(int x, int y, int change) {
            int at = (y - top) * width + x - left;
            if (at >= 0 && at < cells) {
                cover[at] += change;
            }
        }

        private boolean hasOverlap() {
            for (int at = 0; at < cells; at++) {
                if (cover[at] > 1) {
                    return true;
                }
            }
            return false;
        }

        private int enclosedCells() {
            flood();
            int enclosed = 0;
            for (int at = 0; at < cells; at++) {
                if (cover[at] == 0) {
                    enclosed++;
                }
            }
            return enclosed;
        }

        // From the ring's first cell. Going beyond a row's end leads to the
        // next row's ring, which is outside too.
        private void flood() {
            int known = reach(0, 0);
            for (int next = 0; next < known && next < MOST_CELLS; next++) {
                int at = reached[next];
                known = reach(at + 1, known);
                known = reach(at - 1, known);
                known = reach(at + width, known);
                known = reach(at - width, known);
            }
        }

        private int reach(int at, int known) {
            if (at < 0 || at >= cells || known >= MOST_CELLS || cover[at] != 0) {
                return known;
            }
            cover[at] = OUTSIDE;
            reached[known] = at;
            return known + 1;
        }
    }
}
