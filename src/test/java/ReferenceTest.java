import java.util.ArrayDeque;
import java.util.ArrayList;
import java.util.Arrays;
import java.util.HashSet;
import java.util.List;
import java.util.Set;
import java.util.TreeMap;

/**
 * Long runs of calls on EdgeJoins and on a slow model that is written straight from the document
 * (cells as points, turns of whole point sets, sorted lists): every answer must be the same.
 */
public final class ReferenceTest {
    private static final int RUNS = 1500;
    private static final int CALLS = 512;

    private static int wrong = 0;
    private static final TreeMap<String, Integer> seen = new TreeMap<>();

    public static void main(String[] args) {
        for (int run = 1; run <= RUNS && wrong < 10; run++) {
            new Run(run).go();
        }
        System.out.println("seen: " + seen);
        for (String kind : new String[] {"join 0", "join 1", "join 2", "join 3", "list over 100", "holes", "undone",
                "closed", "not closed", "deep tree", "sherd throws", "step throws state", "step throws argument",
                "step throws index", "height throws index", "height throws argument", "pair throws", "join throws",
                "last told pair", "fractional tie", "holes of a turned tree"}) {
            if (seen.getOrDefault(kind, 0) < 20) {
                wrong++;
                System.out.println("the runs hardly ever came to: " + kind);
            }
        }
        System.out.println(wrong == 0 ? "all answers are the model's" : wrong + " answers are not the model's");
        if (wrong != 0) {
            System.exit(1);
        }
    }

    private static void saw(String kind) {
        seen.merge(kind, 1, Integer::sum);
    }

    private interface Call {
        long answer();
    }

    private static final class Dice {
        private long state;

        Dice(long seed) {
            state = seed * 0x9E3779B97F4A7C15L + 12345;
        }

        int below(int n) {
            state = state * 6364136223846793005L + 1442695040888963407L;
            return (int) ((state >>> 33) % n);
        }

        boolean oneIn(int n) {
            return below(n) == 0;
        }
    }

    /** One object and one model under the same calls. */
    private static final class Run {
        private final int number;
        private final Dice dice;
        private final EdgeJoins real = new EdgeJoins();
        private final Model model = new Model();
        private final List<String> told = new ArrayList<>();
        private int calls = 0;

        Run(int number) {
            this.number = number;
            this.dice = new Dice(number);
        }

        void go() {
            int before = wrong;
            int style = number % 4;
            int atFirst = 2 + dice.below(5);
            for (int s = 0; s < atFirst; s++) {
                makeSherd();
            }
            if (style != 0) {
                call("least", dice.oneIn(3) ? 3 : 2);
            }
            if (style == 2) {
                call("bound", 9801);
            }
            while (calls < CALLS && wrong == before) {
                oneStepOfWork();
            }
            if (wrong != before) {
                System.out.println("run " + number + " after: " + told);
            }
        }

        private void makeSherd() {
            int s = (int) call("sherd");
            if (s < 0 || dice.oneIn(12)) {
                return;
            }
            int[] edge = Shapes.edge(dice);
            boolean flat = dice.oneIn(2);
            for (int d : edge) {
                call("step", s, d);
            }
            for (int at = 0; !flat && at < edge.length && calls < CALLS; at += 1 + dice.below(3)) {
                call("height", s, at, dice.oneIn(4) ? dice.below(100) : dice.below(4));
            }
            call("close", s);
        }

        private void oneStepOfWork() {
            int size = model.told();
            switch (dice.below(16)) {
                case 0: call("run"); break;
                case 1: case 2: case 3:
                    if (size == 0) {
                        call("run");
                    }
                    call("join", size == 0 ? dice.below(3) : dice.below(size));
                    break;
                case 4: call("join", dice.below(120) - 2); break;
                case 5: call("undo"); break;
                case 6: call("pair", dice.below(104) - 2, dice.below(8) - 1); break;
                case 7: case 8:
                    int k = dice.below(Math.max(1, size));
                    for (int what = 0; what < 6; what++) {
                        call("pair", k, what);
                    }
                    break;
                case 9: case 10:
                    for (int what = -1; what < 5; what++) {
                        call("place", dice.below(8) - 1, what);
                    }
                    break;
                case 11: case 12: call("holes", dice.below(8) - 1); break;
                case 13: call("count", dice.below(6) - 1); break;
                case 14: rareWork(); break;
                default:
                    for (int s = 0; s < model.sherds.size(); s++) {
                        call("place", s, 0);
                        call("place", s, 1);
                        call("place", s, 2);
                        call("place", s, 3);
                        call("holes", s);
                    }
            }
        }

        private void rareWork() {
            switch (dice.below(9)) {
                case 0: makeSherd(); break;
                case 1: call("step", dice.below(8) - 1, dice.below(6) - 1); break;
                case 2: call("height", dice.below(8) - 1, dice.below(31) - 1, dice.below(110) - 5); break;
                case 3: call("height", dice.below(6), dice.below(8), dice.below(5)); break;
                case 4: call("close", dice.below(8) - 1); break;
                case 5: call("least", dice.below(23)); break;
                case 6: call("bound", dice.oneIn(2) ? dice.below(9810) - 3 : dice.below(10)); break;
                case 7: call("least", 2); break;
                default: call("run");
            }
        }

        private long call(String name, int... with) {
            // What an object answers after so many calls is free.
            if (calls == CALLS) {
                return -1;
            }
            calls++;
            String text = name + Arrays.toString(with);
            String want = outcome(() -> model.answer(name, with));
            String got = outcome(() -> answerOf(name, with));
            told.add(text + "=" + want);
            note(name, want);
            if (!want.equals(got)) {
                wrong++;
                System.out.println("run " + number + ": " + text + " answered " + got + ", due is " + want);
            }
            return want.startsWith("throws") ? -1 : Long.parseLong(want);
        }

        private void note(String name, String want) {
            boolean thrown = want.startsWith("throws");
            if (thrown && (name.equals("step") || name.equals("height"))) {
                saw(name + " throws " + (want.contains("State") ? "state" : want.contains("Argument") ? "argument" : "index"));
            } else if (thrown) {
                saw(name + " throws");
            } else if (name.equals("join")) {
                saw("join " + want);
            } else if (name.equals("run") && Integer.parseInt(want) > 100) {
                saw("list over 100");
            } else if (name.equals("holes") && !want.equals("0")) {
                saw("holes");
            } else if (name.equals("undo") && want.equals("1")) {
                saw("undone");
            } else if (name.equals("close")) {
                saw(want.equals("0") ? "not closed" : "closed");
            }
        }

        private long answerOf(String name, int[] w) {
            switch (name) {
                case "sherd": return real.sherd();
                case "step": return real.step(w[0], w[1]);
                case "height": return real.height(w[0], w[1], w[2]);
                case "close": return real.close(w[0]);
                case "least": return real.least(w[0]);
                case "bound": return real.bound(w[0]);
                case "run": return real.run();
                case "pair": return real.pair(w[0], w[1]);
                case "join": return real.join(w[0]);
                case "undo": return real.undo() ? 1 : 0;
                case "place": return real.place(w[0], w[1]);
                case "holes": return real.holes(w[0]);
                default: return real.count(w[0]);
            }
        }
    }

    private static String outcome(Call call) {
        try {
            return Long.toString(call.answer());
        } catch (RuntimeException e) {
            return "throws." + e.getClass().getSimpleName();
        }
    }

    /** Edges for the runs: most of them round a random heap of cells, some of them wrong. */
    private static final class Shapes {
        static int[] edge(Dice dice) {
            int[] edge = dice.oneIn(4) ? pocket(dice) : heap(dice);
            if (dice.oneIn(25)) {
                return backwards(edge);
            }
            if (dice.oneIn(25)) {
                return walk(dice);
            }
            if (dice.oneIn(40)) {
                return Arrays.copyOf(edge, edge.length - 1);
            }
            return edge;
        }

        private static int[] pocket(Dice dice) {
            String[] known = {"010301122233", "0001221233", "00012211000122223333", "000111222333", "0001222233301112",
                "001100332211223300332211", "0111012223333300", "00112233", "0000111122332233",
                "01010101010112323232323233", "00000000000122222222221233", "0000000000000122222222222223",
                "0111122233010333", "0000000111111122222223333333"};
            String text = known[dice.below(known.length)];
            int[] edge = new int[text.length()];
            int first = dice.below(edge.length);
            int turn = dice.below(4);
            for (int at = 0; at < edge.length; at++) {
                edge[at] = (text.charAt((at + first) % edge.length) - '0' + turn) & 3;
            }
            return edge;
        }

        private static int[] heap(Dice dice) {
            while (true) {
                Set<Long> cells = new HashSet<>();
                cells.add(key(0, 0));
                int wanted = 1 + dice.below(14);
                List<Long> order = new ArrayList<>(cells);
                while (cells.size() < wanted) {
                    long from = order.get(dice.below(order.size()));
                    int d = dice.below(4);
                    long next = key(x(from) + DX[d], y(from) + DY[d]);
                    if (cells.add(next)) {
                        order.add(next);
                    }
                }
                int[] edge = round(cells, dice);
                if (edge != null) {
                    return edge;
                }
            }
        }

        /** The edge round the cells, or null if it is too long, or is not one edge without a corner met twice. */
        private static int[] round(Set<Long> cells, Dice dice) {
            TreeMap<Long, Integer> stepFrom = new TreeMap<>();
            int[][] sides = {{0, 0, 0, 0, -1}, {1, 0, 1, 1, 0}, {1, 1, 2, 0, 1}, {0, 1, 3, -1, 0}};
            for (long cell : cells) {
                for (int[] side : sides) {
                    if (!cells.contains(key(x(cell) + side[3], y(cell) + side[4]))
                            && stepFrom.put(key(x(cell) + side[0], y(cell) + side[1]), side[2]) != null) {
                        return null;
                    }
                }
            }
            int size = stepFrom.size();
            if (size > 28) {
                return null;
            }
            int skip = dice.below(size);
            long start = new ArrayList<>(stepFrom.keySet()).get(skip);
            int[] edge = new int[size];
            long at = start;
            for (int k = 0; k < size; k++) {
                edge[k] = stepFrom.get(at);
                at = key(x(at) + DX[edge[k]], y(at) + DY[edge[k]]);
                if (at == start && k + 1 < size) {
                    return null;
                }
            }
            return edge;
        }

        private static int[] backwards(int[] edge) {
            int[] back = new int[edge.length];
            for (int at = 0; at < edge.length; at++) {
                back[at] = (edge[edge.length - 1 - at] + 2) & 3;
            }
            return back;
        }

        private static int[] walk(Dice dice) {
            int[] edge = new int[dice.below(31)];
            for (int at = 0; at < edge.length; at++) {
                edge[at] = dice.below(4);
            }
            return edge;
        }
    }

    private static final int[] DX = {1, 0, -1, 0};
    private static final int[] DY = {0, 1, 0, -1};

    private static long key(int x, int y) {
        return (x + 100000L) * 1000000L + (y + 100000L);
    }

    private static int x(long key) {
        return (int) (key / 1000000L - 100000L);
    }

    private static int y(long key) {
        return (int) (key % 1000000L - 100000L);
    }

    /** A sherd of the model: its corners and its cells' middles as placed, in halves of a step. */
    private static final class Sherd {
        final List<Integer> steps = new ArrayList<>();
        final List<Integer> heights = new ArrayList<>();
        boolean closed;
        int quarters;
        int tree;
        List<int[]> corners = new ArrayList<>(List.of(new int[] {0, 0}));
        List<int[]> middles = new ArrayList<>();

        Sherd(int tree) {
            this.tree = tree;
        }

        int step(int at) {
            return steps.get(Math.floorMod(at, steps.size()));
        }

        int height(int at) {
            return heights.get(Math.floorMod(at, steps.size()));
        }

        int[] corner(int at) {
            return corners.get(Math.floorMod(at, steps.size()));
        }

        Sherd placedCopy() {
            Sherd copy = new Sherd(tree);
            copy.quarters = quarters;
            copy.corners = copyOf(corners);
            copy.middles = copyOf(middles);
            return copy;
        }

        void takePlaceOf(Sherd other) {
            tree = other.tree;
            quarters = other.quarters;
            corners = copyOf(other.corners);
            middles = copyOf(other.middles);
        }

        void turn() {
            quarters = (quarters + 1) % 4;
            for (List<int[]> points : List.of(corners, middles)) {
                for (int[] p : points) {
                    int old = p[0];
                    p[0] = -p[1];
                    p[1] = old;
                }
            }
        }

        void shift(int dx, int dy) {
            for (List<int[]> points : List.of(corners, middles)) {
                for (int[] p : points) {
                    p[0] += dx;
                    p[1] += dy;
                }
            }
        }

        private static List<int[]> copyOf(List<int[]> points) {
            List<int[]> copy = new ArrayList<>();
            for (int[] p : points) {
                copy.add(p.clone());
            }
            return copy;
        }
    }

    private static final class Model {
        final List<Sherd> sherds = new ArrayList<>();
        private final List<List<Sherd>> earlier = new ArrayList<>();
        private List<int[]> list = null;
        private int least = 3;
        private int bound = 100;

        int told() {
            return list == null ? 0 : Math.min(100, list.size());
        }

        long answer(String name, int[] w) {
            switch (name) {
                case "sherd": return sherd();
                case "step": return step(w[0], w[1]);
                case "height": return height(w[0], w[1], w[2]);
                case "close": return close(w[0]);
                case "least": return least(w[0]);
                case "bound": return bound(w[0]);
                case "run": return run();
                case "pair": return pair(w[0], w[1]);
                case "join": return join(w[0]);
                case "undo": return undo() ? 1 : 0;
                case "place": return place(w[0], w[1]);
                case "holes": return holes(w[0]);
                default: return count(w[0]);
            }
        }

        private Sherd at(int sherd) {
            if (sherd < 0 || sherd >= sherds.size()) {
                throw new IndexOutOfBoundsException();
            }
            return sherds.get(sherd);
        }

        private int sherd() {
            if (sherds.size() == 6) {
                throw new IllegalStateException();
            }
            sherds.add(new Sherd(sherds.size()));
            return sherds.size() - 1;
        }

        private int step(int sherd, int d) {
            Sherd s = at(sherd);
            if (s.closed || s.steps.size() == 28) {
                throw new IllegalStateException();
            }
            if (d < 0 || d > 3) {
                throw new IllegalArgumentException();
            }
            int[] last = s.corners.get(s.corners.size() - 1);
            s.corners.add(new int[] {last[0] + 2 * DX[d], last[1] + 2 * DY[d]});
            s.steps.add(d);
            s.heights.add(0);
            return s.steps.size();
        }

        private int height(int sherd, int at, int v) {
            Sherd s = at(sherd);
            if (at < 0 || at >= s.steps.size()) {
                throw new IndexOutOfBoundsException();
            }
            if (v < 0 || v > 99) {
                throw new IllegalArgumentException();
            }
            list = null;
            return s.heights.set(at, v);
        }

        private int close(int sherd) {
            Sherd s = at(sherd);
            int size = s.steps.size();
            if (s.closed || size < 4 || s.corners.get(size)[0] != 0 || s.corners.get(size)[1] != 0) {
                return 0;
            }
            Set<Long> met = new HashSet<>();
            int highest = 0;
            for (int k = 0; k < size; k++) {
                if (!met.add(key(s.corner(k)[0], s.corner(k)[1]))) {
                    return 0;
                }
                highest = Math.min(highest, s.corner(k)[1]);
            }
            for (int k = 0; k < size; k++) {
                // Clockwise: along its upmost corners an edge goes to the right.
                if (s.corner(k)[1] == highest && s.corner(k + 1)[1] == highest && s.step(k) == 2) {
                    return 0;
                }
            }
            s.closed = true;
            list = null;
            for (int x = -59; x < 60; x += 2) {
                for (int y = -59; y < 60; y += 2) {
                    if (inside(s, x, y)) {
                        s.middles.add(new int[] {x, y});
                    }
                }
            }
            return s.middles.size();
        }

        /** Whether a ray up from the point meets an odd number of the edge's steps. */
        private static boolean inside(Sherd s, int x, int y) {
            int above = 0;
            for (int k = 0; k < s.steps.size(); k++) {
                int[] from = s.corner(k);
                int[] to = s.corner(k + 1);
                if (from[1] == to[1] && from[1] < y && Math.min(from[0], to[0]) < x && x < Math.max(from[0], to[0])) {
                    above++;
                }
            }
            return above % 2 == 1;
        }

        private int least(int n) {
            if (n < 2 || n > 20) {
                throw new IllegalArgumentException();
            }
            int old = least;
            least = n;
            list = null;
            return old;
        }

        private int bound(int v) {
            if (v < 0 || v > 9801) {
                throw new IllegalArgumentException();
            }
            int old = bound;
            bound = v;
            list = null;
            return old;
        }

        private static boolean match(Sherd a, int i, Sherd b, int j, int q) {
            return ((b.step(j) + q) & 3) == ((a.step(i) + 2) & 3);
        }

        private int run() {
            list = new ArrayList<>();
            for (int b = 0; b < sherds.size(); b++) {
                for (int a = 0; a < b; a++) {
                    if (at(a).closed && at(b).closed) {
                        listPairs(a, b);
                    }
                }
            }
            list.sort((p, r) -> {
                long mine = (long) p[5] * r[4];
                long others = (long) r[5] * p[4];
                if (mine != others) {
                    return Long.compare(mine, others);
                }
                if (p[4] != r[4]) {
                    if (p[5] != 0 && p[5] % p[4] != 0) {
                        saw("fractional tie");
                    }
                    return Integer.compare(r[4], p[4]);
                }
                for (int k = 0; k < 4; k++) {
                    if (p[k] != r[k]) {
                        return Integer.compare(p[k], r[k]);
                    }
                }
                return 0;
            });
            return list.size();
        }

        private void listPairs(int na, int nb) {
            Sherd a = at(na);
            Sherd b = at(nb);
            for (int i = 0; i < a.steps.size(); i++) {
                for (int j = 0; j < b.steps.size(); j++) {
                    for (int q = 0; q < 4; q++) {
                        if (match(a, i, b, j, q) && !match(a, i - 1, b, j + 1, q)) {
                            listPair(na, i, nb, j, q);
                        }
                    }
                }
            }
        }

        private void listPair(int na, int i, int nb, int j, int q) {
            Sherd a = at(na);
            Sherd b = at(nb);
            int n = 0;
            int sum = 0;
            while (n < a.steps.size() && n < b.steps.size() && match(a, i + n, b, j - n, q)) {
                int difference = a.height(i + n) - b.height(j - n);
                sum += difference * difference;
                n++;
            }
            if (n >= least && sum <= bound * n) {
                list.add(new int[] {na, i, nb, j, n, sum});
            }
        }

        private int pair(int k, int what) {
            if (k < 0 || k >= told() || what < 0 || what > 5) {
                throw new IndexOutOfBoundsException();
            }
            if (k == 99) {
                saw("last told pair");
            }
            return list.get(k)[what];
        }

        private int join(int k) {
            if (k < 0 || k >= told()) {
                throw new IndexOutOfBoundsException();
            }
            int[] pair = list.get(k);
            if (at(pair[0]).tree == at(pair[2]).tree) {
                return liesOn(pair) ? 3 : 2;
            }
            List<Sherd> before = snapshot();
            int moved = at(pair[2]).tree;
            bringTogether(pair, moved);
            if (!liesOn(pair)) {
                throw new AssertionError("the model's own move is wrong");
            }
            int stays = at(pair[0]).tree;
            for (Sherd s : sherds) {
                if (s.tree == moved || s.tree == stays) {
                    s.tree = Math.min(moved, stays);
                }
            }
            if (overlap(Math.min(moved, stays))) {
                restore(before);
                return 1;
            }
            earlier.add(before);
            if (earlier.size() >= 3) {
                saw("deep tree");
            }
            return 0;
        }

        private void bringTogether(int[] pair, int tree) {
            for (int turns = 0; turns < 4 && !liesOn(pair); turns++) {
                for (Sherd s : sherds) {
                    if (s.tree == tree) {
                        s.turn();
                    }
                }
                int[] to = at(pair[0]).corner(pair[1]);
                int[] from = at(pair[2]).corner(pair[3] + 1);
                int dx = to[0] - from[0];
                int dy = to[1] - from[1];
                for (Sherd s : sherds) {
                    if (s.tree == tree) {
                        s.shift(dx, dy);
                    }
                }
            }
        }

        /** Whether each step of the stretch of b lies on the step of a, the other way. */
        private boolean liesOn(int[] pair) {
            Sherd a = at(pair[0]);
            Sherd b = at(pair[2]);
            for (int k = 0; k < pair[4]; k++) {
                if (!Arrays.equals(a.corner(pair[1] + k), b.corner(pair[3] - k + 1))
                        || !Arrays.equals(a.corner(pair[1] + k + 1), b.corner(pair[3] - k))) {
                    return false;
                }
            }
            return true;
        }

        private boolean overlap(int tree) {
            Set<Long> taken = new HashSet<>();
            for (Sherd s : sherds) {
                for (int[] m : s.middles) {
                    if (s.tree == tree && !taken.add(key(m[0], m[1]))) {
                        return true;
                    }
                }
            }
            return false;
        }

        private List<Sherd> snapshot() {
            List<Sherd> all = new ArrayList<>();
            for (Sherd s : sherds) {
                all.add(s.placedCopy());
            }
            return all;
        }

        private void restore(List<Sherd> before) {
            for (int s = 0; s < before.size(); s++) {
                sherds.get(s).takePlaceOf(before.get(s));
            }
        }

        private boolean undo() {
            if (earlier.isEmpty()) {
                return false;
            }
            List<Sherd> before = earlier.remove(earlier.size() - 1);
            // A sherd that was not joined yet may have got steps, or been closed, since then.
            for (int s = 0; s < before.size(); s++) {
                if (sherds.get(s).tree != before.get(s).tree || before.get(s).middles.size() > 0) {
                    sherds.get(s).takePlaceOf(before.get(s));
                }
            }
            return true;
        }

        private int place(int sherd, int what) {
            Sherd s = at(sherd);
            switch (what) {
                case 0: return s.corners.get(0)[0] / 2;
                case 1: return s.corners.get(0)[1] / 2;
                case 2: return s.quarters;
                case 3: return s.tree;
                default: throw new IndexOutOfBoundsException();
            }
        }

        private int holes(int sherd) {
            Sherd asked = at(sherd);
            if (!asked.closed) {
                return 0;
            }
            Set<Long> taken = new HashSet<>();
            int left = 9999;
            int right = -9999;
            int top = 9999;
            int bottom = -9999;
            for (Sherd s : sherds) {
                for (int[] m : s.middles) {
                    if (s.tree == asked.tree) {
                        taken.add(key(m[0], m[1]));
                        left = Math.min(left, m[0]);
                        right = Math.max(right, m[0]);
                        top = Math.min(top, m[1]);
                        bottom = Math.max(bottom, m[1]);
                    }
                }
            }
            int holes = 0;
            Set<Long> open = new HashSet<>();
            for (int x = left; x <= right; x += 2) {
                for (int y = top; y <= bottom; y += 2) {
                    if (!taken.contains(key(x, y)) && !open.contains(key(x, y))) {
                        Set<Long> patch = patch(x, y, taken, new int[] {left, right, top, bottom});
                        if (patch == null) {
                            holes++;
                        } else {
                            open.addAll(patch);
                        }
                    }
                }
            }
            if (holes > 0 && asked.quarters != 0) {
                saw("holes of a turned tree");
            }
            return holes;
        }

        /** The free cells that one comes to from a cell, if out of the box is among them, else null. */
        private static Set<Long> patch(int x, int y, Set<Long> taken, int[] box) {
            Set<Long> patch = new HashSet<>(Set.of(key(x, y)));
            ArrayDeque<Long> todo = new ArrayDeque<>(patch);
            boolean out = false;
            while (!todo.isEmpty()) {
                long at = todo.remove();
                for (int d = 0; d < 4; d++) {
                    int nx = x(at) + 2 * DX[d];
                    int ny = y(at) + 2 * DY[d];
                    if (nx < box[0] || nx > box[1] || ny < box[2] || ny > box[3]) {
                        out = true;
                    } else if (!taken.contains(key(nx, ny)) && patch.add(key(nx, ny))) {
                        todo.add(key(nx, ny));
                    }
                }
            }
            return out ? patch : null;
        }

        private int count(int what) {
            switch (what) {
                case 0: return sherds.size();
                case 1: return (int) sherds.stream().filter(s -> s.closed).count();
                case 2: return told();
                case 3: return earlier.size();
                default: throw new IndexOutOfBoundsException();
            }
        }
    }
}
