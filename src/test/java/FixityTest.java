/** Promise 4: fixity. */
public final class FixityTest {
    public static void main(String[] args) {
        Checks c = new Checks();
        wrongArguments(c);
        names(c);
        limit(c);
        effect(c);
        c.end();
    }

    private static void wrongArguments(Checks c) {
        LayoutFront x = new LayoutFront();
        for (int side : new int[] {-1, 3, Integer.MIN_VALUE, Integer.MAX_VALUE}) {
            c.dueThrow("side " + side, Checks.ARGUMENT, () -> x.fixity(43, side, 6));
        }
        for (int level : new int[] {-1, 10, Integer.MIN_VALUE, Integer.MAX_VALUE}) {
            c.dueThrow("level " + level, Checks.ARGUMENT, () -> x.fixity(43, 0, level));
        }
        c.due("none is set", 1, x.fixity(43, 0, 0));
        c.due("set again", 1, x.fixity(43, 2, 9));
    }

    private static void names(Checks c) {
        LayoutFront x = new LayoutFront();
        long[] names = {0, -1, Long.MIN_VALUE, Long.MAX_VALUE, 1L << 32, 1};
        for (int i = 0; i < names.length; i++) {
            c.due("any long is a name", i + 1, x.fixity(names[i], 0, 6));
        }
        for (long name : names) {
            c.due("which is known again", names.length, x.fixity(name, 1, 5));
        }
    }

    private static void limit(Checks c) {
        LayoutFront x = new LayoutFront();
        for (int i = 1; i <= 12; i++) {
            c.due("fixity", i, x.fixity(100 + i, 0, 6));
        }
        c.dueThrow("the 13th", Checks.STATE, () -> x.fixity(100, 0, 6));
        c.dueThrow("wrong arguments are told first", Checks.ARGUMENT, () -> x.fixity(100, 3, 6));
        c.due("a known one at the limit", 12, x.fixity(112, 1, 2));
        c.due("the first one at the limit", 12, x.fixity(101, 1, 2));
    }

    private static void effect(Checks c) {
        LayoutFront x = Checks.with("", "a + b + c");
        c.due("left and 9 by itself", "<{ .( .( a + b .) + c .) <}", Checks.readAndShown(x));
        x.fixity('+', 1, 6);
        c.due("right", "<{ .( a + .( b + c .) .) <}", Checks.readAndShown(x));
        x.fixity('+', 2, 6);
        c.due("none", "<{ a + b + c <}", Checks.readAndShown(x));
        x.fixity('+', 0, 6);
        c.due("left", "<{ .( .( a + b .) + c .) <}", Checks.readAndShown(x));
        Checks.rewrite(x, "a `mod` b + c");
        c.due("a name by itself", "<{ .( .( a ` mod ` b .) + c .) <}", Checks.readAndShown(x));
        x.fixity(Checks.packed("mod"), 0, 5);
        c.due("a name", "<{ .( a ` mod ` .( b + c .) .) <}", Checks.readAndShown(x));
        Checks.rewrite(x, "a !#$%&*+ b + c");
        x.fixity(Checks.packed("!#$%&*+"), 0, 0);
        c.due("seven characters", "<{ .( a !#$%&*+ .( b + c .) .) <}", Checks.readAndShown(x));
        Checks.rewrite(x, "a = b + c");
        x.fixity('=', 0, 0);
        c.due("a reserved operator is none all the same", "<{ a = .( b + c .) <}", Checks.readAndShown(x));
    }
}
