/** Promise 3: erase. */
public final class EraseTest {
    public static void main(String[] args) {
        Checks c = new Checks();
        howMany(c);
        textIsGone(c);
        whatWasReadStays(c);
        fixitiesStay(c);
        c.end();
    }

    private static void howMany(Checks c) {
        c.sentence("how many characters it had");
        LayoutFront x = new LayoutFront();
        c.due("an empty text", 0, x.erase());
        c.due("an empty one again", 0, x.erase());
        x.write('a', 1);
        c.due("one character", 1, x.erase());
        c.due("which is gone", 0, x.erase());
        Checks.write(x, " ".repeat(240));
        c.due("a full one", 240, x.erase());
        Checks.write(x, "\n".repeat(240));
        c.due("a full one again", 240, x.erase());
    }

    private static void textIsGone(Checks c) {
        c.sentence("The text is gone");
        LayoutFront x = Checks.with("", "a \" {- )");
        x.erase();
        c.due("read of nothing", "<{ <}", Checks.readAndShown(x));
        Checks.write(x, "b");
        c.due("read of what came later", "<{ b <}", Checks.readAndShown(x));
        Checks.rewrite(x, "a".repeat(240));
        x.erase();
        c.due("there is room again", 8, x.write(Checks.packed("a b c d "), 8));
        c.due("nothing old stands behind the new", "<{ a b c d <}", Checks.readAndShown(x));
    }

    private static void whatWasReadStays(Checks c) {
        c.sentence("What was read stays.");
        String[] texts = {"a + b", "", "a )", "a \"", "(a", "a ".repeat(91), "do a\n   b == c == d"};
        for (String text : texts) {
            LayoutFront x = Checks.with("+ 0 6, == 2 4", text);
            Checks.answerOf(() -> x.read());
            String before = Checks.seen(x);
            x.erase();
            c.due("behind a read of\n" + text, before, Checks.seen(x));
            x.erase();
            c.due("and behind one more", before, Checks.seen(x));
            Checks.write(x, "c d e");
            c.due("and behind a write", before, Checks.seen(x));
        }
        LayoutFront x = Checks.with("", "a )");
        c.dueThrow("wrong", Checks.ARGUMENT, () -> x.read());
        x.erase();
        c.due("the place of what was wrong", 2, x.place());
    }

    private static void fixitiesStay(Checks c) {
        c.sentence("The text is gone, the fixities are not");
        LayoutFront x = Checks.with("+ 1 6", "a + b");
        x.erase();
        Checks.write(x, "c + d + e");
        c.due("read", "<{ .( c + .( d + e .) .) <}", Checks.readAndShown(x));
        c.due("fixity", 2, x.fixity('-', 0, 6));
    }
}
