/** Promise 4: fixity. */
public final class FixityTest {
    public static void main(String[] args) {
        Checks c = new Checks();
        sets(c);
        characters(c);
        anyLong(c);
        howMany(c);
        wrongSide(c);
        wrongLevel(c);
        thirteenth(c);
        argumentsFirst(c);
        c.end();
    }

    private static void sets(Checks c) {
        c.sentence("Sets the fixity of an operation");
        LayoutFront x = Checks.with("", "a + b + c");
        c.due("left and 9 by itself", "<{ .( .( a + b .) + c .) <}", Checks.readAndShown(x));
        x.fixity('+', 1, 6);
        c.due("right", "<{ .( a + .( b + c .) .) <}", Checks.readAndShown(x));
        x.fixity('+', 2, 6);
        c.due("none", "<{ a + b + c <}", Checks.readAndShown(x));
        x.fixity('+', 0, 6);
        c.due("left", "<{ .( .( a + b .) + c .) <}", Checks.readAndShown(x));
        x.fixity('+', 1, 0);
        Checks.rewrite(x, "a * b + c");
        c.due("level 0", "<{ .( .( a * b .) + c .) <}", Checks.readAndShown(x));
        Checks.rewrite(x, "a = b + c");
        x.fixity('=', 0, 0);
        c.due("a reserved operator is none all the same", "<{ a = .( b + c .) <}", Checks.readAndShown(x));
        Checks.rewrite(x, "a `do` b");
        x.fixity(Checks.packed("do"), 0, 0);
        c.due("nor is a word", "<{ a ` do <{ ` b <} <}", Checks.readAndShown(x));
        Checks.rewrite(x, "a + b");
        x.read();
        String before = Checks.seen(x);
        x.fixity('+', 2, 9);
        c.due("what was read stays", before, Checks.seen(x));
    }

    private static void characters(Checks c) {
        c.sentence("its characters in the lowest bytes of name, the first one the lowest, 0 behind the last one");
        LayoutFront x = Checks.with("+ 0 6, <| 0 5", "a <| b + c");
        c.due("two characters", "<{ .( a <| .( b + c .) .) <}", Checks.readAndShown(x));
        Checks.rewrite(x, "a |< b + c");
        c.due("the other way round is another", "<{ .( .( a |< b .) + c .) <}", Checks.readAndShown(x));
        Checks.rewrite(x, "a `mod` b + c");
        c.due("a name by itself", "<{ .( .( a ` mod ` b .) + c .) <}", Checks.readAndShown(x));
        x.fixity(Checks.packed("mod"), 0, 5);
        c.due("a name", "<{ .( a ` mod ` .( b + c .) .) <}", Checks.readAndShown(x));
        Checks.rewrite(x, "a !#$%&*+ b + c");
        x.fixity(Checks.packed("!#$%&*+"), 0, 0);
        c.due("an operator of seven", "<{ .( a !#$%&*+ .( b + c .) .) <}", Checks.readAndShown(x));
        Checks.rewrite(x, "a `abcdefg` b + c");
        x.fixity(Checks.packed("abcdefg"), 0, 0);
        c.due("a name of seven", "<{ .( a ` abcdefg ` .( b + c .) .) <}", Checks.readAndShown(x));
        Checks.rewrite(x, "a * b + c");
        x.fixity((long) '*' << 8, 0, 0);
        x.fixity('*' | 1L << 56, 0, 0);
        x.fixity(Checks.packed("`*`"), 0, 0);
        c.due("none of these is *", "<{ .( .( a * b .) + c .) <}", Checks.readAndShown(x));
    }

    private static void anyLong(Checks c) {
        c.sentence("any long is a name of one");
        LayoutFront x = new LayoutFront();
        long[] names = {0, -1, Long.MIN_VALUE, Long.MAX_VALUE, 1L << 32, 1, 43 | 1L << 32, 43, 43L << 8, 255};
        for (int i = 0; i < names.length; i++) {
            c.due("name " + names[i], i + 1, x.fixity(names[i], 0, 6));
        }
        for (long name : names) {
            c.due("known again: " + name, names.length, x.fixity(name, 1, 5));
        }
    }

    private static void howMany(Checks c) {
        c.sentence("How many are set.");
        LayoutFront x = new LayoutFront();
        c.due("the first", 1, x.fixity('+', 0, 6));
        c.due("the same with the same", 1, x.fixity('+', 0, 6));
        c.due("the same with others", 1, x.fixity('+', 2, 0));
        c.due("the second", 2, x.fixity('-', 0, 6));
        x.erase();
        x.read();
        c.due("behind an erase and a read", 3, x.fixity('*', 0, 7));
    }

    private static void wrongSide(Checks c) {
        c.sentence("IllegalArgumentException, when side is not 0 .. 2");
        LayoutFront x = new LayoutFront();
        for (int side : new int[] {-1, 3, -2, 256, Integer.MIN_VALUE, Integer.MAX_VALUE}) {
            c.dueThrow("side " + side, Checks.ARGUMENT, () -> x.fixity(43, side, 6));
        }
        for (int side = 0; side <= 2; side++) {
            c.due("side " + side, side + 1, x.fixity(side, side, 6));
        }
    }

    private static void wrongLevel(Checks c) {
        c.sentence("or level not 0 .. 9");
        LayoutFront x = new LayoutFront();
        for (int level : new int[] {-1, 10, 11, 256, Integer.MIN_VALUE, Integer.MAX_VALUE}) {
            c.dueThrow("level " + level, Checks.ARGUMENT, () -> x.fixity(43, 0, level));
        }
        for (int level = 0; level <= 9; level++) {
            c.due("level " + level, level + 1, x.fixity(level, 0, level));
        }
    }

    private static void thirteenth(Checks c) {
        c.sentence("IllegalStateException, when it is the 13th");
        LayoutFront x = Checks.with("", "a + b + c");
        for (int i = 1; i <= 11; i++) {
            c.due("fixity", i, x.fixity(100 + i, 0, 6));
        }
        c.due("the 12th", 12, x.fixity('+', 1, 6));
        c.dueThrow("the 13th", Checks.STATE, () -> x.fixity('-', 0, 6));
        c.dueThrow("a 13th of name 0", Checks.STATE, () -> x.fixity(0, 0, 6));
        c.dueThrow("the 13th again", Checks.STATE, () -> x.fixity('-', 0, 6));
        c.due("the 12th is set", "<{ .( a + .( b + c .) .) <}", Checks.readAndShown(x));
        c.due("the 12th once more is no 13th", 12, x.fixity('+', 2, 6));
        c.due("and is set anew", "<{ a + b + c <}", Checks.readAndShown(x));
        for (int i = 1; i <= 11; i++) {
            c.due("no known one is", 12, x.fixity(100 + i, 1, 2));
        }
        x.erase();
        c.dueThrow("an erase makes no room", Checks.STATE, () -> x.fixity('-', 0, 6));
    }

    private static void argumentsFirst(Checks c) {
        c.sentence("a wrong argument, and the 13th");
        LayoutFront x = new LayoutFront();
        for (int i = 1; i <= 12; i++) {
            x.fixity(i, 0, 6);
        }
        c.dueThrow("side", Checks.ARGUMENT, () -> x.fixity(100, 3, 6));
        c.dueThrow("level", Checks.ARGUMENT, () -> x.fixity(100, 0, 10));
        c.dueThrow("side of a known one", Checks.ARGUMENT, () -> x.fixity(1, -1, 6));
    }
}
