/** Promise 5, its own section: what read answers, and what there is when it throws. */
public final class ReadTest {
    public static void main(String[] args) {
        Checks c = new Checks();
        howMany(c);
        readsTheText(c);
        wrong(c);
        tooMany(c);
        noTokens(c);
        c.end();
    }

    private static void howMany(Checks c) {
        c.sentence("how many TOKENS there are, lexemes and what was put in");
        answers(c, "", 2);
        answers(c, "a", 3);
        answers(c, "{}", 2);
        answers(c, "a b\nc", 6);
        answers(c, "a + b", 7);
        answers(c, "- a", 6);
        answers(c, "do", 5);
        answers(c, "a ".repeat(90), 92);
        answers(c, "a+".repeat(44) + "a", 89 + 2 + 2 * 44);
        answers(c, "{- a -} -- b", 2);
    }

    private static void answers(Checks c, String text, int due) {
        LayoutFront x = Checks.with("", text);
        c.due("read of\n" + text, due, x.read());
        c.due("read again of\n" + text, due, x.read());
        c.dueThrow("no token behind them", Checks.INDEX, () -> x.token(due));
        c.due("the last one is there", false, Checks.answerOf(() -> x.token(due - 1)).equals(Checks.INDEX));
    }

    private static void readsTheText(Checks c) {
        c.sentence("Reads the text");
        LayoutFront x = Checks.with("", "a");
        x.read();
        Checks.write(x, "b c");
        c.due("with what came since", "<{ ab c <}", Checks.readAndShown(x));
        x.fixity('+', 1, 5);
        Checks.write(x, " + d + e");
        c.due("by the fixities set since", "<{ .( ab c + .( d + e .) .) <}", Checks.readAndShown(x));
        c.due("which it leaves as it is", 12, x.erase());
    }

    private static void wrong(Checks c) {
        c.sentence("IllegalArgumentException, when it is wrong");
        for (String text : new String[] {"\"", "abcdefgh", "++++++++", "1234567890", "{-", ")", "in", "}", "(", "if a", "{"}) {
            LayoutFront x = Checks.with("", text);
            c.dueThrow("read of\n" + text, Checks.ARGUMENT, () -> x.read());
            c.dueThrow("read again of\n" + text, Checks.ARGUMENT, () -> x.read());
            c.due("the text stays", text.length(), x.erase());
            c.due("and behind an erase it is fine", 2, x.read());
        }
    }

    private static void tooMany(Checks c) {
        c.sentence("IllegalStateException, when there are more than 90 lexemes");
        LayoutFront x = Checks.with("", ",".repeat(90));
        c.due("90", 92, x.read());
        x.write(',', 1);
        c.dueThrow("91", Checks.STATE, () -> x.read());
        c.dueThrow("91 again", Checks.STATE, () -> x.read());
        Checks.write(x, ",".repeat(149));
        c.dueThrow("240", Checks.STATE, () -> x.read());
        c.due("the text stays", 240, x.erase());
        c.due("and behind an erase it is fine", 2, x.read());
    }

    private static void noTokens(Checks c) {
        c.sentence("(When it throws there are no tokens.)");
        String[] texts = {"\"", "a b c abcdefgh", "a b {-", "a b )", "a b (", "a + b }", "a ".repeat(91)};
        for (String text : texts) {
            LayoutFront x = Checks.with("", "a + b");
            x.read();
            Checks.rewrite(x, text);
            Checks.answerOf(() -> x.read());
            for (int i = -1; i <= 7; i++) {
                int at = i;
                c.dueThrow("kind(" + i + ") behind a read of\n" + text, Checks.INDEX, () -> x.kind(at));
                c.dueThrow("token(" + i + ") behind a read of\n" + text, Checks.INDEX, () -> x.token(at));
            }
            Checks.rewrite(x, "c");
            c.dueThrow("nor behind a write", Checks.INDEX, () -> x.token(0));
            c.due("but behind a read that does not", "<{ c <}", Checks.readAndShown(x));
        }
    }
}
