import java.util.LinkedHashMap;
import java.util.Map;

/** A refused call changes nothing but what the document says that it changes. */
public final class RefusedCallTest {
    private static final String FIXITIES = "+ 1 6, == 2 4";
    private static final String READ_BEFORE = "do a + b + c\n   d == e == f";
    private static final String[] FINE = {"", "a + b + c", "a == b == c", "{ a }"};
    private static final String[] WRONG = {"a \"", "a b )", "(a + b", "a {- b", "a ".repeat(91)};

    private interface State {
        LayoutFront made();
    }

    public static void main(String[] args) {
        Checks c = new Checks();
        Map<String, State> states = states();
        for (Map.Entry<String, State> state : states.entrySet()) {
            callsThatChangeNothing(c, state.getKey(), state.getValue());
            refusedWrites(c, state.getKey(), state.getValue());
            refusedFixities(c, state.getKey(), state.getValue());
        }
        refusedReads(c);
        c.end();
    }

    private static Map<String, State> states() {
        Map<String, State> states = new LinkedHashMap<>();
        states.put("new", LayoutFront::new);
        for (String text : FINE) {
            states.put("not read: " + text, () -> Checks.with(FIXITIES, text));
            states.put("read: " + text, () -> afterRead(text));
        }
        for (String text : WRONG) {
            states.put("not read: " + text, () -> Checks.with(FIXITIES, text));
            states.put("refused: " + text, () -> afterRead(text));
        }
        return states;
    }

    private static LayoutFront afterRead(String text) {
        LayoutFront x = Checks.with(FIXITIES, READ_BEFORE);
        x.read();
        Checks.rewrite(x, text);
        Checks.answerOf(() -> x.read());
        return x;
    }

    /** What can be seen now, and what a read, more fixities and an erase would show. */
    private static String whole(LayoutFront x) {
        return Checks.seen(x) + " / " + Checks.readAndShown(x) + " / " + Checks.seen(x)
                + " / " + Checks.answerOf(() -> x.fixity('#', 0, 6)) + " / " + x.erase();
    }

    private static void dueRefused(Checks c, String state, LayoutFront x, String want, Checks.Call call, String due) {
        String before = Checks.seen(x);
        c.dueThrow("refused when " + state, want, call);
        c.due("seen behind it, when " + state, before, Checks.seen(x));
        c.due("all behind it, when " + state, due, whole(x));
    }

    private static void callsThatChangeNothing(Checks c, String name, State state) {
        c.sentence("kind, token, count: IndexOutOfBoundsException");
        String due = whole(state.made());
        for (int i : new int[] {-1, 5000, Integer.MIN_VALUE, Integer.MAX_VALUE}) {
            LayoutFront x = state.made();
            dueRefused(c, name, x, Checks.INDEX, () -> x.kind(i), due);
            LayoutFront y = state.made();
            dueRefused(c, name, y, Checks.INDEX, () -> y.token(i), due);
            LayoutFront z = state.made();
            dueRefused(c, name, z, Checks.INDEX, () -> z.count(i), due);
        }
    }

    private static void refusedWrites(Checks c, String name, State state) {
        c.sentence("write: IllegalArgumentException, IllegalStateException");
        String due = whole(state.made());
        long letters = Checks.packed("abcdefgh");
        for (int n : new int[] {0, 9, -1}) {
            LayoutFront x = state.made();
            dueRefused(c, name, x, Checks.ARGUMENT, () -> x.write(letters, n), due);
        }
        for (int at = 0; at < 8; at++) {
            LayoutFront x = state.made();
            long eight = letters & ~(255L << 8 * at);
            dueRefused(c, name, x, Checks.ARGUMENT, () -> x.write(eight, 8), due);
        }
        LayoutFront full = filled(state);
        String dueFull = whole(filled(state));
        dueRefused(c, name + ", then full", full, Checks.STATE, () -> full.write(letters, 2), dueFull);
    }

    /** With one character less than there may be, so that a part of two could come. */
    private static LayoutFront filled(State state) {
        LayoutFront x = state.made();
        int has = state.made().erase();
        Checks.write(x, " ".repeat(239 - has));
        return x;
    }

    private static void refusedFixities(Checks c, String name, State state) {
        c.sentence("fixity: IllegalArgumentException, IllegalStateException");
        String due = whole(state.made());
        for (long operation : new long[] {'+', '#'}) {
            LayoutFront x = state.made();
            dueRefused(c, name, x, Checks.ARGUMENT, () -> x.fixity(operation, 3, 0), due);
            LayoutFront y = state.made();
            dueRefused(c, name, y, Checks.ARGUMENT, () -> y.fixity(operation, 0, 10), due);
            LayoutFront z = state.made();
            dueRefused(c, name, z, Checks.ARGUMENT, () -> z.fixity(operation, -1, -1), due);
        }
        LayoutFront full = withTwelve(state);
        String dueFull = whole(withTwelve(state));
        dueRefused(c, name + ", then with 12", full, Checks.STATE, () -> full.fixity('#', 2, 0), dueFull);
    }

    private static LayoutFront withTwelve(State state) {
        LayoutFront x = state.made();
        for (int i = 0; i < 12; i++) {
            int name = i;
            Checks.answerOf(() -> x.fixity(1000 + name, 2, 0));
        }
        return x;
    }

    /** A read that throws leaves no tokens and a place, and changes nothing else. */
    private static void refusedReads(Checks c) {
        c.sentence("read: (When it throws there are no tokens.)");
        for (String text : WRONG) {
            LayoutFront x = Checks.with(FIXITIES, READ_BEFORE);
            x.read();
            String counts = Checks.seen(x).replaceAll("(?s).*counts", "counts");
            Checks.rewrite(x, text);
            c.due("throws", true, Checks.answerOf(() -> x.read()).startsWith("Illegal"));
            c.due("seen", " | place " + x.place() + " | " + counts, Checks.seen(x));
            c.due("there is a place", true, x.place() >= 0 && x.place() <= text.length());
            c.due("the fixities", 3, x.fixity('#', 0, 6));
            c.due("the text", text.length(), x.erase());
            Checks.write(x, READ_BEFORE);
            c.due("reads as before", Checks.readAndShown(Checks.with(FIXITIES, READ_BEFORE)), Checks.readAndShown(x));
        }
    }
}
