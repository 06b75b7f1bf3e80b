import java.util.List;
import java.util.function.Consumer;
import java.util.function.Supplier;

/** What each test counts and says: answers that are not as due, and calls that are not refused as they should be. */
final class Checks {
    static final String INDEX = "IndexOutOfBoundsException";
    static final String STATE = "IllegalStateException";
    static final String ARGUMENT = "IllegalArgumentException";

    private static final String NOTHING = "nothing";

    private static int wrong = 0;

    private Checks() {
    }

    static void due(String sentence, long got, long want) {
        if (got != want) {
            say(sentence + ": answered " + got + ", due is " + want);
        }
    }

    static void due(String sentence, boolean got, boolean want) {
        if (got != want) {
            say(sentence + ": answered " + got + ", due is " + want);
        }
    }

    /** The call throws just this exception, and every later answer is as if it had not been made. */
    static void refused(String sentence, String exception, Supplier<EdgeJoins> maker, Consumer<EdgeJoins> call) {
        String got = thrownBy(maker.get(), call);
        if (!got.equals(exception)) {
            say(sentence + ": threw " + got + ", due is " + exception);
        }
        sameLater(sentence, maker, call);
    }

    static void refused(String sentence, String exception, EdgeJoins x, Consumer<EdgeJoins> call) {
        String got = thrownBy(x, call);
        if (!got.equals(exception)) {
            say(sentence + ": threw " + got + ", due is " + exception);
        }
    }

    /** The call throws nothing, and every later answer is as if it had not been made. */
    static void changesNothing(String sentence, Supplier<EdgeJoins> maker, Consumer<EdgeJoins> call) {
        String got = thrownBy(maker.get(), call);
        if (!got.equals(NOTHING)) {
            say(sentence + ": threw " + got + ", due is an answer");
        }
        sameLater(sentence, maker, call);
    }

    static void end(String test) {
        System.out.println(test + (wrong == 0 ? ": all as due" : ": " + wrong + " not as due"));
        if (wrong != 0) {
            System.exit(1);
        }
    }

    private static void say(String fault) {
        wrong++;
        System.out.println(fault);
    }

    private static String thrownBy(EdgeJoins x, Consumer<EdgeJoins> call) {
        try {
            call.accept(x);
        } catch (RuntimeException e) {
            return e.getClass().getSimpleName();
        }
        return NOTHING;
    }

    private static void sameLater(String sentence, Supplier<EdgeJoins> maker, Consumer<EdgeJoins> call) {
        List<String> without = Tale.of(maker);
        List<String> with = Tale.of(() -> {
            EdgeJoins x = maker.get();
            thrownBy(x, call);
            return x;
        });
        for (int at = 0; at < Math.max(without.size(), with.size()); at++) {
            String want = at < without.size() ? without.get(at) : NOTHING;
            String got = at < with.size() ? with.get(at) : NOTHING;
            if (!got.equals(want)) {
                say(sentence + ": a later call tells " + got + ", due is " + want);
                return;
            }
        }
    }
}
