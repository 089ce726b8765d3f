/** Promise 5, the Terms up to BLOCKS: what is cut, and what is wrong in it. */
public final class ReadLexemesTest {
    private static final String LETTERS = "ABCDEFGHIJKLMNOPQRSTUVWXYZabcdefghijklmnopqrstuvwxyz";
    private static final String DIGITS = "0123456789";
    private static final String OPERATORS = "!#$%&*+./<=>?@\\^|-~:";
    private static final String NINETY = "a ".repeat(90);

    public static void main(String[] args) {
        Checks c = new Checks();
        empty(c);
        full(c);
        columns(c);
        longest(c);
        characters(c);
        pairs(c);
        between(c);
        lineComments(c);
        nestedComments(c);
        mostLexemes(c);
        cutFirst(c);
        lengths(c);
        words(c);
        reserved(c);
        otherCharacters(c);
        commentsWithoutEnd(c);
        firstFromTheLeft(c);
        c.end();
    }

    private static void empty(Checks c) {
        c.sentence("A TEXT has at most 240 characters: none");
        c.dueRead("", "<{ <}");
        c.dueRead(" ", "<{ <}");
        c.dueRead("\n", "<{ <}");
        c.dueRead("  \n ", "<{ <}");
    }

    private static void full(Checks c) {
        c.sentence("A TEXT has at most 240 characters: all of them");
        c.dueRead(" ".repeat(239) + "a", "<{ a <}");
        c.dueRead(" ".repeat(238) + "ab", "<{ ab <}");
        c.dueRead(" ".repeat(233) + "abcdefg", "<{ abcdefg <}");
        c.dueWrong(" ".repeat(232) + "abcdefgh", 232);
        c.dueRead(" ".repeat(231) + "123456789", "<{ 123456789 <}");
        c.dueWrong(" ".repeat(230) + "1234567890", 230);
        c.dueRead(" ".repeat(236) + "{--}", "<{ <}");
        c.dueWrong(" ".repeat(236) + "{- -", 236);
        c.dueWrong(" ".repeat(238) + "{-", 238);
        c.dueRead(" ".repeat(239) + "-", "<{ - <}");
        c.dueRead(" ".repeat(238) + "--", "<{ <}");
        c.dueWrong(" ".repeat(239) + "\"", 239);
        c.dueWrong(" ".repeat(239) + ")", 239);
        c.dueWrong(" ".repeat(239) + "(", 240);
        c.dueRead("\n".repeat(239) + "a", "<{ a <}");
    }

    private static void columns(Checks c) {
        c.sentence("A character's COLUMN is its place in its line, from 1.");
        c.dueRead("a\nb\n c", "<{ a <; b c <}");
        c.dueRead(" a\n b\nc", "<{ a <; b <} c");
        c.dueRead("\n\n  a\n  b", "<{ a <; b <}");
        c.dueRead(" ".repeat(118) + "a\n" + " ".repeat(118) + "b", "<{ a <; b <}");
        c.dueRead("{- -} a\n      b", "<{ a <; b <}");
        c.dueRead("{- \n -} a\n    b", "<{ a <; b <}");
        c.dueRead("{- \n\n-}a\n  b", "<{ a <; b <}");
        c.dueRead("{--}{--}a\n        b", "<{ a <; b <}");
    }

    private static void longest(Checks c) {
        c.sentence("LEXEMES, the longest ones from the left");
        c.dueRead("12ab 007 0", "<{ 12 ab 7 0 <}");
        c.dueRead("1_a", "<{ 1 _a <}");
        c.dueRead("a1b2", "<{ a1b2 <}");
        c.dueRead("1234567ab", "<{ 1234567 ab <}");
        c.dueRead("123456789a", "<{ 123456789 a <}");
        c.dueRead("abcdefg+1", "<{ .( abcdefg + 1 .) <}");
        c.dueRead("a=b|c::d", "<{ a = b | c :: d <}");
        c.dueRead("a==b", "<{ .( a == b .) <}");
        c.dueRead("a=-b", "<{ .( a =- b .) <}");
        c.dueRead("doa", "<{ doa <}");
        c.dueRead("do'", "<{ do' <}");
        c.dueWrong("(((", 3);
        c.dueRead("{{;}}", "{ { ; } }");
    }

    /** Each character by itself, but for those that no text of one can have. */
    private static void characters(Checks c) {
        c.sentence("a NAME: a letter or _");
        for (char a : (LETTERS + "_").toCharArray()) {
            kind(c, "" + a, 0, a);
        }
        c.sentence("a NUMBER: digits");
        for (char a : DIGITS.toCharArray()) {
            kind(c, "" + a, 1, a - '0');
        }
        c.sentence("an OPERATOR: one or more of ! # $ % & * + . / < = > ? @ \\ ^ | - ~ :");
        for (char a : OPERATORS.toCharArray()) {
            kind(c, "" + a, 2, a);
        }
        c.sentence("a SIGN: one of ( ) [ ] { } , ; `");
        c.dueRead("([,])`{;}", "<{ ( [ , ] ) ` { ; } <}");
        for (char a : ",;`".toCharArray()) {
            kind(c, "" + a, 3, a);
        }
    }

    private static void kind(Checks c, String text, int kind, long token) {
        LayoutFront x = Checks.with("", text);
        c.due("tokens of " + text, 3, x.read());
        c.due("kind of " + text, kind, x.kind(1));
        c.due("token of " + text, token, x.token(1));
    }

    /** Which characters a lexeme goes on with: each one behind a name, a number and an operator. */
    private static void pairs(Checks c) {
        c.sentence("and any letters, digits, _ and '");
        for (char b = 32; b <= 126; b++) {
            one(c, "a" + b, (LETTERS + DIGITS + "_'").indexOf(b) >= 0);
        }
        c.sentence("a NUMBER: digits");
        for (char b = 32; b <= 126; b++) {
            one(c, "1" + b, DIGITS.indexOf(b) >= 0);
        }
        c.sentence("an OPERATOR: one or more of");
        for (char b = 32; b <= 126; b++) {
            one(c, "+" + b, OPERATORS.indexOf(b) >= 0);
        }
        c.sentence("a SIGN: one of");
        for (char b = 32; b <= 126; b++) {
            one(c, ";" + b, false);
        }
    }

    private static void one(Checks c, String two, boolean isOne) {
        LayoutFront x = Checks.with("", two);
        boolean got = !Checks.answerOf(() -> x.read()).startsWith("Illegal") && x.count(0) == 1;
        c.due("one lexeme: " + two, isOne || two.endsWith(" "), got);
    }

    private static void between(Checks c) {
        c.sentence("Before, between and behind them may stand spaces, line ends, and comments");
        c.dueRead("a+1(b)", "<{ .( a + 1 ( b ) .) <}");
        c.dueRead("  a  +\n\n    1 ( b ) \n ", "<{ .( a + 1 ( b ) .) <}");
        c.dueRead("{- -}a{- -}+{- -}1{- -}({- -}b{- -}){- -}", "<{ .( a + 1 ( b ) .) <}");
        c.dueRead("-- x\na-- x\n +\n -- x\n 1(b) -- x", "<{ .( a + 1 ( b ) .) <}");
        c.dueRead("a{--}b", "<{ a b <}");
        c.dueRead("1{--}2", "<{ 1 2 <}");
        c.dueRead("+{--}+", "<{ + + <}");
    }

    private static void lineComments(Checks c) {
        c.sentence("two or more \"-\" that are an operator by themselves, up to the line end");
        c.dueRead("a -- b \" '\n c", "<{ a c <}");
        c.dueRead("a --", "<{ a <}");
        c.dueRead("--", "<{ <}");
        c.dueRead("--\n", "<{ <}");
        c.dueRead("--a", "<{ <}");
        c.dueRead("a - b", "<{ .( a - b .) <}");
        c.dueRead("a - - b", "<{ a - - b <}");
        c.dueRead("a --- b\n ---------- \n c --", "<{ a c <}");
        c.dueRead("a--b\n c", "<{ a c <}");
        c.dueRead("a --> b |-- c --| d", "<{ .( .( .( a --> b .) |-- c .) --| d .) <}");
        c.dueRead("a -->\n b", "<{ .( a --> b .) <}");
        c.dueRead("(--)\n)", "<{ ( ) <}");
        c.dueRead("a -- {- b\n c", "<{ a c <}");
        c.dueRead("a -- -}\n c", "<{ a c <}");
        c.dueRead("a --}\n c", "<{ a c <}");
        c.dueRead("a -- b -- c\n d", "<{ a d <}");
        c.dueRead("a --\n--\n--\nb", "<{ a <; b <}");
    }

    private static void nestedComments(Checks c) {
        c.sentence("and \"{-\" up to its \"-}\", between which there may be such ones again");
        c.dueRead("a {- b -} c", "<{ a c <}");
        c.dueRead("a{-b-}c", "<{ a c <}");
        c.dueRead("{--}", "<{ <}");
        c.dueRead("{---}a", "<{ a <}");
        c.dueRead("{----}a", "<{ a <}");
        c.dueRead("{-}-}a", "<{ a <}");
        c.dueWrong("{-{-}", 0);
        c.dueRead("{-{--}-}a", "<{ a <}");
        c.dueRead("{-{-{--}-}-}a", "<{ a <}");
        c.dueRead("{-{--}{--}-}a", "<{ a <}");
        c.dueRead("a {- b {- c {--} -} d -} e", "<{ a e <}");
        c.dueRead("{- -- -} a", "<{ a <}");
        c.dueRead("{- --\n -} a", "<{ a <}");
        c.dueRead("{- \" ' abcdefgh 1234567890 ++++++++ -} a", "<{ a <}");
        c.dueRead("a+{-+-}+b", "<{ a + + b <}");
        c.dueRead("{a-}", "{ a - }");
        c.dueRead("{ - }", "{ - }");
        c.dueWrong("{- -}-}", 6);
        c.dueRead("a {- \n -}b", "<{ a b <}");
        c.dueRead("a {- \n-}b\n    c", "<{ a b c <}");
        c.dueRead("{-".repeat(60) + "-}".repeat(60), "<{ <}");
        c.dueRead("+{- -}", "<{ + <}");
    }

    private static void mostLexemes(Checks c) {
        c.sentence("There are at most 90 lexemes");
        c.dueRead("a ".repeat(89), "<{ " + "a ".repeat(89) + "<}");
        c.dueRead(NINETY, "<{ " + NINETY + "<}");
        c.dueRead(NINETY + "{- b -} -- b", "<{ " + NINETY + "<}");
        c.dueTooMany(NINETY + "b", 180);
        c.dueTooMany(NINETY + " b", 181);
        c.dueTooMany(NINETY + "{--}\n ;", 186);
        c.dueTooMany(",".repeat(91), 90);
        c.dueTooMany(",".repeat(240), 90);
        c.dueTooMany("1+".repeat(45) + "1", 90);
        c.dueRead("a\n".repeat(90), "<{" + " a <;".repeat(89) + " a <}");
        c.dueTooMany("a\n".repeat(91), 180);
        LayoutFront x = Checks.with("", "do\n".repeat(80));
        c.due("what is put in is not among them", 321, x.read());
    }

    private static void cutFirst(Checks c) {
        c.sentence("all are cut before blocks are looked at");
        c.dueWrong(") \"", 2);
        c.dueWrong("in abcdefgh", 3);
        c.dueWrong("then 1234567890", 5);
        c.dueWrong("} {-", 2);
        c.dueTooMany(")".repeat(91), 90);
        c.dueWrong(")".repeat(90), 0);
        c.dueWrong("(".repeat(90), 90);
        c.dueTooMany("(".repeat(91), 90);
    }

    private static void lengths(Checks c) {
        c.sentence("A name or operator has at most 7 characters");
        c.dueRead("a abcdefg", "<{ a abcdefg <}");
        c.dueWrong("a abcdefgh", 2);
        c.dueRead("a a''''''", "<{ a a'''''' <}");
        c.dueWrong("a a'''''''", 2);
        c.dueRead("a _123456", "<{ a _123456 <}");
        c.dueWrong("a _1234567", 2);
        c.dueWrong("a abcdefg1 b", 2);
        c.dueRead("a =======", "<{ a ======= <}");
        c.dueWrong("a ========", 2);
        c.dueRead("a ------=", "<{ a ------= <}");
        c.dueWrong("a -------=", 2);
        c.dueRead("a --------", "<{ a <}");
        c.dueRead("a ".repeat(3) + "-".repeat(234), "<{ a a a <}");
        c.dueWrong("a".repeat(240), 0);
        c.dueWrong("+".repeat(240), 0);
        c.sentence("a number at most 9 digits");
        c.dueRead("a 123456789", "<{ a 123456789 <}");
        c.dueRead("a 999999999", "<{ a 999999999 <}");
        c.dueRead("a 000000000", "<{ a 0 <}");
        c.dueWrong("a 1234567890", 2);
        c.dueWrong("a 0000000000", 2);
        c.dueWrong("a 0000000001 b", 2);
        c.dueWrong("1".repeat(240), 0);
    }

    private static void words(Checks c) {
        c.sentence("WORDS are the names let where do of in if then else case");
        c.dueRead("a + b let {} c + d", "<{ .( a + b .) let { } .( c + d .) <}");
        c.dueRead("a + b where {} c + d", "<{ .( a + b .) where { } .( c + d .) <}");
        c.dueRead("a + b do {} c + d", "<{ .( a + b .) do { } .( c + d .) <}");
        c.dueRead("case a + b of {} c + d", "<{ case .( a + b .) of { } .( c + d .) <}");
        c.dueRead("let {} a + b in c + d", "<{ let { } .( a + b .) in .( c + d .) <}");
        c.dueRead("a + b if c + d then e + f else g + h",
                "<{ .( a + b .) if .( c + d .) then .( e + f .) else .( g + h .) <}");
        String[] names = {
            "lets", "le", "Let", "let'", "_let", "let1", "wher", "where'", "d", "dot", "Do", "o", "off", "i", "inn", "In",
            "iff", "IF", "the", "thenn", "els", "elses", "cas", "cases", "tel", "od", "class", "data", "module", "_",
        };
        for (String name : names) {
            c.dueRead(name + " + " + name, "<{ .( " + name + " + " + name + " .) <}");
            c.dueRead("a `" + name + "` b", "<{ .( a ` " + name + " ` b .) <}");
        }
    }

    private static void reserved(Checks c) {
        c.sentence("RESERVED operators are = -> <- | :: => \\ @ ~ and \"..\"");
        for (String o : new String[] {"=", "->", "<-", "|", "::", "=>", "\\", "@", "~", ".."}) {
            c.dueRead("a " + o + " b", "<{ a " + o + " b <}");
            c.dueRead("a + b " + o + " - c", "<{ .( a + b .) " + o + " .( - c .) <}");
        }
        String[] free = {
            "==", "-", ">", "<", "||", ":", ":::", "<=", ">=", "->>", "<--", "\\\\", "@@", "~~", ".", "...", "=-", "|-",
            "-<", ">-", "=.", "~>", "!", "#", "$", "%", "&", "*", "+", "/", "?", "^",
        };
        for (String o : free) {
            c.dueRead("a " + o + " b", "<{ .( a " + o + " b .) <}");
        }
    }

    private static void otherCharacters(Checks c) {
        c.sentence("WRONG: other characters");
        c.dueWrong("\"", 0);
        c.dueWrong("'", 0);
        c.dueWrong("a \"b\"", 2);
        c.dueWrong("a 'b'", 2);
        c.dueWrong("1'", 1);
        c.dueWrong("+'", 1);
        c.dueWrong("a\"", 1);
        c.dueRead("a'", "<{ a' <}");
        c.dueRead("-- \"", "<{ <}");
        c.dueRead("{-'-}", "<{ <}");
    }

    private static void commentsWithoutEnd(Checks c) {
        c.sentence("a comment \"{-\" without end");
        c.dueWrong("{-", 0);
        c.dueWrong("{-}", 0);
        c.dueWrong("{- -", 0);
        c.dueWrong("{- - }", 0);
        c.dueWrong("{-\n", 0);
        c.dueWrong("a {- b {- c -} d", 2);
        c.dueWrong("a {-{-}-}", 2);
        c.dueWrong("{--} {- \n", 5);
        c.dueWrong("{-".repeat(120), 0);
        c.dueWrong("{-".repeat(61) + "-}".repeat(59), 0);
        c.dueWrong("{-".repeat(40) + "-}".repeat(39), 0);
    }

    private static void firstFromTheLeft(Checks c) {
        c.sentence("LEXEMES .. from the left: what is wrong first is told");
        c.dueWrong("\" abcdefgh", 0);
        c.dueWrong("abcdefgh \"", 0);
        c.dueWrong("a 1234567890 {-", 2);
        c.dueWrong(NINETY + "\"", 180);
        c.dueWrong(NINETY + "{-", 180);
        c.dueWrong(NINETY + "abcdefgh", 180);
        c.dueTooMany(NINETY + "b \"", 180);
        c.dueTooMany(NINETY + "b {-", 180);
        c.dueWrong("\" " + NINETY + "b", 0);
    }
}
