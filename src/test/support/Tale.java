import java.util.ArrayList;
import java.util.List;
import java.util.function.Supplier;

/**
 * All that an object tells from now on. Each part is told by an object of its own, so that no part
 * hides a change from another one, and none makes more than the 512 calls that an object has.
 */
final class Tale {
    private static final int MOST_TOLD = 100;
    private static final int PAIRS_OF_A_PART = 20;

    private interface Call {
        Object answer();
    }

    private final List<String> lines = new ArrayList<>();

    static List<String> of(Supplier<EdgeJoins> maker) {
        Tale tale = new Tale();
        tale.layout(maker.get());
        for (int from = 0; from < MOST_TOLD; from += PAIRS_OF_A_PART) {
            tale.pairs(maker.get(), from);
        }
        tale.listMadeAnew(maker.get());
        tale.heights(maker.get());
        tale.settings(maker.get());
        tale.undone(maker.get());
        tale.closed(maker.get());
        tale.stepped(maker.get());
        tale.joined(maker.get());
        tale.filled(maker.get());
        return tale.lines;
    }

    private void tell(String call, Call made) {
        Object answer;
        try {
            answer = made.answer();
        } catch (RuntimeException e) {
            answer = "throws." + e.getClass().getSimpleName();
        }
        lines.add(call + " = " + answer);
    }

    private void layout(EdgeJoins x) {
        for (int what = 0; what < 4; what++) {
            int w = what;
            tell("count(" + w + ")", () -> x.count(w));
        }
        places(x);
        int sherds = x.count(0);
        for (int sherd = 0; sherd < sherds; sherd++) {
            int s = sherd;
            tell("holes(" + s + ")", () -> x.holes(s));
        }
    }

    private void places(EdgeJoins x) {
        int sherds = x.count(0);
        for (int sherd = 0; sherd < sherds; sherd++) {
            for (int what = 0; what < 4; what++) {
                int s = sherd;
                int w = what;
                tell("place(" + s + ", " + w + ")", () -> x.place(s, w));
            }
        }
    }

    private void pairs(EdgeJoins x, int from) {
        int end = Math.min(from + PAIRS_OF_A_PART, x.count(2));
        for (int pair = from; pair < end; pair++) {
            for (int what = 0; what < 6; what++) {
                int k = pair;
                int w = what;
                tell("pair(" + k + ", " + w + ")", () -> x.pair(k, w));
            }
        }
    }

    private void listMadeAnew(EdgeJoins x) {
        tell("run()", x::run);
        pairs(x, 0);
    }

    private void heights(EdgeJoins x) {
        int sherds = x.count(0);
        for (int sherd = 0; sherd < sherds; sherd++) {
            for (int step = 0; step < 28; step++) {
                int s = sherd;
                int at = step;
                tell("height(" + s + ", " + at + ", 0)", () -> x.height(s, at, 0));
            }
        }
    }

    private void settings(EdgeJoins x) {
        tell("least(2)", () -> x.least(2));
        tell("bound(9801)", () -> x.bound(9801));
        listMadeAnew(x);
    }

    private void undone(EdgeJoins x) {
        for (int join = 0; join < 6; join++) {
            tell("undo()", x::undo);
            places(x);
        }
    }

    private void closed(EdgeJoins x) {
        int sherds = x.count(0);
        for (int sherd = 0; sherd < sherds; sherd++) {
            int s = sherd;
            tell("close(" + s + ")", () -> x.close(s));
        }
        tell("count(1)", () -> x.count(1));
        tell("count(2)", () -> x.count(2));
    }

    private void stepped(EdgeJoins x) {
        int sherds = x.count(0);
        for (int sherd = 0; sherd < sherds; sherd++) {
            int s = sherd;
            tell("step(" + s + ", 3)", () -> x.step(s, 3));
            tell("close(" + s + ") behind it", () -> x.close(s));
        }
        heights(x);
    }

    private void joined(EdgeJoins x) {
        int told = x.count(2);
        for (int pair = 0; pair < told; pair++) {
            int k = pair;
            tell("join(" + k + ")", () -> x.join(k));
        }
        layout(x);
    }

    private void filled(EdgeJoins x) {
        for (int sherd = 0; sherd < 7; sherd++) {
            int s = sherd;
            tell("sherd()", x::sherd);
            tell("step(" + s + ", 0)", () -> x.step(s, 0));
            tell("height(" + s + ", 0, 0)", () -> x.height(s, 0, 0));
        }
        layout(x);
    }
}
