/** Promise 5, what is cut: lexemes, blanks, comments, and what is wrong among them. */
public final class ReadLexemesTest {
    public static void main(String[] args) {
        Checks c = new Checks();
        lexemes(c);
        lengths(c);
        lineComments(c);
        nestedComments(c);
        wrongCharacters(c);
        tooMany(c);
        c.end();
    }

    private static void lexemes(Checks c) {
        c.dueRead("", "<{ <}");
        c.dueRead("  \n ", "<{ <}");
        c.dueRead("a", "<{ a <}");
        c.dueRead("_ _a A'b' z9_ a1'", "<{ _ _a A'b' z9_ a1' <}");
        c.dueRead("12ab 007 0", "<{ 12 ab 7 0 <}");
        c.dueRead("1_a", "<{ 1 _a <}");
        c.dueRead("a=b|c::d", "<{ a = b | c :: d <}");
        c.dueRead("@!#$%&*\n .+/<=>?\n \\^|-~:", "<{ @!#$%&* .+/<=>? \\^|-~: <}");
        c.dueRead("([,])`{;}", "<{ ( [ , ] ) ` { ; } <}");
        c.dueRead("lets inn do' Let", "<{ lets inn do' Let <}");
    }

    private static void lengths(Checks c) {
        c.dueRead("abcdefg 123456789 =======", "<{ abcdefg 123456789 ======= <}");
        c.dueWrong("a abcdefgh", 2);
        c.dueWrong("a a''''''''", 2);
        c.dueWrong("a 1234567890", 2);
        c.dueWrong("a 0000000000", 2);
        c.dueWrong("a ========", 2);
        c.dueWrong("a -------=", 2);
        c.dueRead("a --------", "<{ a <}");
        c.dueWrong("a abcdefg1 b", 2);
        c.dueRead("1234567ab", "<{ 1234567 ab <}");
    }

    private static void lineComments(Checks c) {
        c.dueRead("a -- b \" '\n c", "<{ a c <}");
        c.dueRead("a -- {- b\n c", "<{ a c <}");
        c.dueRead("a --- b\n ---------- \n c --", "<{ a c <}");
        c.dueRead("a--b\n c", "<{ a c <}");
        c.dueRead("a --> b |-- c --| d", "<{ .( .( .( a --> b .) |-- c .) --| d .) <}");
        c.dueRead("--a", "<{ <}");
        c.dueRead("(--)\n)", "<{ ( ) <}");
        c.dueRead("a - - b", "<{ a - - b <}");
    }

    private static void nestedComments(Checks c) {
        c.dueRead("a {- b -} c", "<{ a c <}");
        c.dueRead("a{-b-}c", "<{ a c <}");
        c.dueRead("a {- b {- c {--} -} d -} e", "<{ a e <}");
        c.dueRead("{--}", "<{ <}");
        c.dueRead("{---}a", "<{ a <}");
        c.dueRead("{-}-}a", "<{ a <}");
        c.dueRead("{- -- -} a", "<{ a <}");
        c.dueRead("{- \" ' -} a", "<{ a <}");
        c.dueRead("a+{-+-}+b", "<{ a + + b <}");
        c.dueRead("{a-}", "{ a - }");
        c.dueWrong("{-}", 0);
        c.dueWrong("{-", 0);
        c.dueWrong("{- -", 0);
        c.dueWrong("a {- b {- c -} d", 2);
        c.dueWrong("a {-{-}-}", 2);
        c.dueWrong("{--} {- \n", 5);
        c.dueRead("a {- \n -}b", "<{ a b <}");
        c.dueRead("a {- \n-}b\n    c", "<{ a b c <}");
        c.dueRead("{- \n -} a\n    b", "<{ a <; b <}");
        c.dueRead("{- -} a\n      b", "<{ a <; b <}");
    }

    private static void wrongCharacters(Checks c) {
        c.dueWrong("a \"b\"", 2);
        c.dueWrong("a 'b'", 2);
        c.dueWrong("'", 0);
        c.dueRead("a'", "<{ a' <}");
        c.dueWrong("1'", 1);
        c.dueWrong(") \"", 2);
        c.dueWrong("\" abcdefgh", 0);
        c.dueWrong("abcdefgh \"", 0);
    }

    private static void tooMany(Checks c) {
        String ninety = "a ".repeat(90);
        c.dueRead(ninety, "<{ " + ninety + "<}");
        c.dueRead(ninety + "{- b -} -- b", "<{ " + ninety + "<}");
        c.dueRead(ninety + " b", Checks.STATE + " at 181");
        c.dueWrong("(".repeat(90), 90);
        c.dueRead("(".repeat(91), Checks.STATE + " at 90");
        c.dueRead(")".repeat(240), Checks.STATE + " at 90");
        c.dueWrong(ninety + "\"", 180);
        c.dueRead(ninety + "b \"", Checks.STATE + " at 180");
        c.dueWrong("\" " + ninety + "b", 0);
    }
}
