/** Promise 6: place. */
public final class PlaceTest {
    public static void main(String[] args) {
        Checks c = new Checks();
        ofTheLexeme(c);
        ofTheCharacter(c);
        ofTheComment(c);
        ofThe91st(c);
        ofTheEnd(c);
        didNotThrow(c);
        thereWasNone(c);
        ofTheLatestRead(c);
        c.end();
    }

    private static void place(Checks c, String text, int due) {
        LayoutFront x = Checks.with("", text);
        Checks.answerOf(() -> x.read());
        c.due("place in\n" + text, due, x.place());
        c.due("place once more in\n" + text, due, x.place());
    }

    private static void ofTheLexeme(Checks c) {
        c.sentence("the place of the lexeme");
        place(c, ")", 0);
        place(c, "  )", 2);
        place(c, "\n\n )", 3);
        place(c, "(a]", 2);
        place(c, "a then b", 2);
        place(c, "a else b", 2);
        place(c, "a of b", 2);
        place(c, "a in b", 2);
        place(c, "a ]", 2);
        place(c, "a }", 2);
        place(c, " ".repeat(239) + ")", 239);
        place(c, "a   abcdefgh", 4);
        place(c, "a\n  1234567890", 4);
        place(c, "a\n   ++++++++", 5);
        place(c, "do a\n   b\n ) ( ]", 11);
        place(c, "{- ) -} ) -- )", 8);
    }

    private static void ofTheCharacter(Checks c) {
        c.sentence("of the character .., if that is none");
        place(c, "\"", 0);
        place(c, "'", 0);
        place(c, "a \"", 2);
        place(c, "a\"", 1);
        place(c, "1'", 1);
        place(c, " ".repeat(239) + "\"", 239);
    }

    private static void ofTheComment(Checks c) {
        c.sentence("or comment, if that is none");
        place(c, "{-", 0);
        place(c, "a  {- b", 3);
        place(c, "a{-", 1);
        place(c, "{- {- -}", 0);
        place(c, "{--}{--}{-}", 8);
        place(c, " ".repeat(238) + "{-", 238);
    }

    private static void ofThe91st(Checks c) {
        c.sentence("of the 91st lexeme");
        place(c, ",".repeat(91), 90);
        place(c, ",".repeat(240), 90);
        place(c, "a\n".repeat(91), 180);
        place(c, "a ".repeat(90) + "{- b -}  c d", 189);
        place(c, "a ".repeat(90) + " ".repeat(59) + "b", 239);
    }

    private static void ofTheEnd(Checks c) {
        c.sentence("the length, if it is the end");
        place(c, "(", 1);
        place(c, "(a  ", 4);
        place(c, "(a\n\n", 4);
        place(c, "(a -- b", 7);
        place(c, "if a then b", 11);
        place(c, "case a", 6);
        place(c, "{", 1);
        place(c, "[do", 3);
        place(c, "(" + " ".repeat(239), 240);
        place(c, "(".repeat(90), 90);
    }

    private static void didNotThrow(Checks c) {
        c.sentence("NONE, when it did not throw");
        place(c, "", LayoutFront.NONE);
        place(c, "a", LayoutFront.NONE);
        place(c, "a == == b", LayoutFront.NONE);
        place(c, "- - a", LayoutFront.NONE);
        place(c, "a ".repeat(90), LayoutFront.NONE);
        c.due("NONE", -1, LayoutFront.NONE);
    }

    private static void thereWasNone(Checks c) {
        c.sentence("or there was none");
        LayoutFront x = new LayoutFront();
        c.due("of a new object", LayoutFront.NONE, x.place());
        Checks.write(x, ")");
        c.due("before a read", LayoutFront.NONE, x.place());
        Checks.answerOf(() -> x.write(0, 1));
        Checks.answerOf(() -> x.fixity(0, 3, 0));
        Checks.answerOf(() -> x.kind(0));
        c.due("behind other calls that throw", LayoutFront.NONE, x.place());
    }

    private static void ofTheLatestRead(Checks c) {
        c.sentence("Where it was wrong in the latest read");
        LayoutFront x = Checks.with("", "ab )");
        c.dueThrow("wrong", Checks.ARGUMENT, () -> x.read());
        c.due("there", 3, x.place());
        Checks.write(x, " b");
        c.due("behind a write", 3, x.place());
        Checks.rewrite(x, "a b");
        c.due("behind an erase", 3, x.place());
        Checks.answerOf(() -> x.kind(0));
        x.fixity('+', 0, 6);
        c.due("behind other calls", 3, x.place());
        x.read();
        c.due("behind a read that did not throw", LayoutFront.NONE, x.place());
        Checks.rewrite(x, "a\n".repeat(91));
        c.dueThrow("91 lexemes", Checks.STATE, () -> x.read());
        c.due("the 91st lexeme", 180, x.place());
        Checks.rewrite(x, "in");
        c.dueThrow("wrong again", Checks.ARGUMENT, () -> x.read());
        c.due("there", 0, x.place());
    }
}
