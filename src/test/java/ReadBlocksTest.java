/** Promise 5, what is put in for blocks, and what is wrong among them. */
public final class ReadBlocksTest {
    public static void main(String[] args) {
        Checks c = new Checks();
        firstBlock(c);
        marks(c);
        begun(c);
        lets(c);
        conditions(c);
        brackets(c);
        commas(c);
        braces(c);
        ends(c);
        c.end();
    }

    private static void firstBlock(Checks c) {
        c.dueRead("a\nb", "<{ a <; b <}");
        c.dueRead("  a\n  b\n   c", "<{ a <; b c <}");
        c.dueRead("  a\n b", "<{ a <} b");
        c.dueRead("  a\n b\n  c", "<{ a <} b c");
        c.dueRead("{ a\nb }", "{ a b }");
        c.dueRead("{ a }\nb\nc", "{ a } b c");
        c.dueRead("{ a } do b", "{ a } do <{ b <}");
        c.dueRead("\n\n a", "<{ a <}");
    }

    private static void marks(Checks c) {
        c.dueRead("do a\n   b\n    c\nd", "<{ do <{ a <; b c <} <; d <}");
        c.dueRead("do do do a\nb", "<{ do <{ do <{ do <{ a <} <} <} <; b <}");
        c.dueRead("do a\n  b", "<{ do <{ a <} b <}");
        c.dueRead("do a -- x\n\n   b", "<{ do <{ a <; b <} <}");
        c.dueRead("do a {- \n -}b", "<{ do <{ a <; b <} <}");
        c.dueRead("do a\n{- -} b", "<{ do <{ a b <} <}");
        c.dueRead("(a\nb)", "<{ ( a b ) <}");
        c.dueRead("(do a\n b)", "<{ ( do <{ a <} b ) <}");
        c.dueRead("if a\nthen b\nelse c\nd", "<{ if a then b else c <; d <}");
        c.dueRead("case a\nof b", "<{ case a of <{ b <} <}");
        c.dueRead("a\n;b", "<{ a <; ; b <}");
        c.dueWrong("a\n)", 2);
    }

    private static void begun(Checks c) {
        c.dueRead("do", "<{ do <{ <} <}");
        c.dueRead("do\n", "<{ do <{ <} <}");
        c.dueRead("a where\nb", "<{ a where <{ <} <; b <}");
        c.dueRead("a where b\n        c", "<{ a where <{ b <; c <} <}");
        c.dueRead("  do\n do\na", "<{ do <{ <} <} do <{ a <}");
        c.dueRead("do a\n   do\n   b", "<{ do <{ a <; do <{ <} <; b <} <}");
        c.dueRead("do a\n   do\n  b", "<{ do <{ a <; do <{ <} <} b <}");
        c.dueRead("do a\n   do\n    b", "<{ do <{ a <; do <{ b <} <} <}");
        c.dueRead("do\n  (do\n  a)", "<{ do <{ ( do <{ <} a ) <} <}");
        c.dueRead("do do where", "<{ do <{ do <{ where <{ <} <} <} <}");
        c.dueRead("do\n{a}\nb", "<{ do <; { a } <; b <}");
        c.dueRead("do\n {a\nb}\nc", "<{ do { a b } <; c <}");
        c.dueWrong("do { do\na }", 10);
        c.dueRead("do { do\n{a} }", "<{ do { do { a } } <}");
        c.dueWrong("do )", 3);
        c.dueRead("(do )", "<{ ( do <{ <} ) <}");
    }

    private static void lets(Checks c) {
        c.dueRead("let a in b", "<{ let <{ a <} in b <}");
        c.dueRead("let a\n    b in c", "<{ let <{ a <; b <} in c <}");
        c.dueRead("let a\n in b", "<{ let <{ a <} in b <}");
        c.dueWrong("let a\nin b", 6);
        c.dueRead("let a = let b in c in d", "<{ let <{ a = let <{ b <} in c <} in d <}");
        c.dueRead("let { a } in b", "<{ let { a } in b <}");
        c.dueRead("let in", "<{ let <{ <} in <}");
        c.dueWrong("let\nin", 4);
        c.dueRead("do let a\n   b", "<{ do <{ let <{ a <} <; b <} <}");
        c.dueWrong("do let a\n   in b", 12);
        c.dueRead("do let a\n    in b", "<{ do <{ let <{ a <} in b <} <}");
        c.dueWrong("let {a} ; in", 10);
        c.dueRead("do let {a} ; let {b} in c", "<{ do <{ let { a } ; let { b } in c <} <}");
        c.dueRead("(let a)", "<{ ( let <{ a <} ) <}");
        c.dueWrong("(let a) in", 8);
        c.dueWrong("in", 0);
        c.dueRead("let let a in b in c", "<{ let <{ let <{ a <} in b <} in c <}");
        c.dueRead("let (let a) in b", "<{ let <{ ( let <{ a <} ) <} in b <}");
        c.dueRead("let {a} let {b} in c in d", "<{ let { a } let { b } in c in d <}");
        c.dueRead("{let {a} }", "{ let { a } }");
        c.dueWrong("{let {a} } in", 11);
        c.dueWrong("let if a in b", 9);
        c.dueRead("do do let {a} let {b}\nc", "<{ do <{ do <{ let { a } let { b } <} <} <; c <}");
        c.dueWrong("do let {a} let {b}\n   in c", 22);
        c.dueRead("do let {a} let {b}\n    in c in d", "<{ do <{ let { a } let { b } in c in d <} <}");
    }

    private static void conditions(Checks c) {
        c.dueRead("if a then b else c", "<{ if a then b else c <}");
        c.dueRead("if do a then do b else do c", "<{ if do <{ a <} then do <{ b <} else do <{ c <} <}");
        c.dueRead("if let a then b else c", "<{ if let <{ a <} then b else c <}");
        c.dueRead("if if a then b else c then d else e", "<{ if if a then b else c then d else e <}");
        c.dueRead("case do a of b", "<{ case do <{ a <} of <{ b <} <}");
        c.dueRead("case a of { b }", "<{ case a of { b } <}");
        c.dueRead("case case a of b of c", "<{ case case a of <{ b <} of <{ c <} <}");
        c.dueWrong("if a else b", 5);
        c.dueWrong("if a then b then c", 12);
        c.dueWrong("if a then b", 11);
        c.dueWrong("if a ", 5);
        c.dueWrong("case a b", 8);
        c.dueWrong("case a then", 7);
        c.dueWrong("then", 0);
        c.dueWrong("else", 0);
        c.dueWrong("of", 0);
        c.dueWrong("if (a then b)", 6);
        c.dueWrong("if { a then b", 7);
        c.dueWrong("if a then b else c else d", 19);
        c.dueRead("do if a\n   then b\n   else c\n   d", "<{ do <{ if a then b else c <; d <} <}");
    }

    private static void brackets(Checks c) {
        c.dueRead("(do a)", "<{ ( do <{ a <} ) <}");
        c.dueRead("[do do a]", "<{ [ do <{ do <{ a <} <} ] <}");
        c.dueRead("(let do a) b", "<{ ( let <{ do <{ a <} <} ) b <}");
        c.dueRead("()[]", "<{ ( ) [ ] <}");
        c.dueWrong("(a]", 2);
        c.dueWrong("[a)", 2);
        c.dueWrong("a )", 2);
        c.dueWrong("( a", 3);
        c.dueWrong("( a \n ", 6);
        c.dueWrong("( { )", 4);
        c.dueWrong("{ ( }", 4);
        c.dueWrong("(if a)", 5);
        c.dueWrong("(if a then b)", 12);
        c.dueRead("(if a then b else c)", "<{ ( if a then b else c ) <}");
        c.dueWrong("(case a)", 7);
    }

    private static void commas(Checks c) {
        c.dueRead("(do a, b)", "<{ ( do <{ a <} , b ) <}");
        c.dueRead("[let a, do do b, c]", "<{ [ let <{ a <} , do <{ do <{ b <} <} , c ] <}");
        c.dueRead("do a, b", "<{ do <{ a , b <} <}");
        c.dueRead("(do {a, b}, c)", "<{ ( do { a , b } , c ) <}");
        c.dueRead("(if do a, b then c else d)", "<{ ( if do <{ a , b <} then c else d ) <}");
        c.dueWrong("(let {a}, b) in", 13);
        c.dueRead("let {a}, b in c", "<{ let { a } , b in c <}");
        c.dueRead("a, b", "<{ a , b <}");
        c.dueRead("(case x of 1 -> do a; b, 2)", "<{ ( case x of <{ 1 -> do <{ a ; b <} <} , 2 ) <}");
        c.dueWrong("(let {a}, b in c)", 12);
    }

    private static void braces(Checks c) {
        c.dueRead("do { a ; b }", "<{ do { a ; b } <}");
        c.dueRead("do {\na\n;b\n}\nc", "<{ do { a ; b } <; c <}");
        c.dueRead("a { b }", "<{ a { b } <}");
        c.dueRead("{ { a } }", "{ { a } }");
        c.dueWrong("{ a", 3);
        c.dueWrong("} a", 0);
        c.dueWrong("a }", 2);
        c.dueWrong("{ do a }", 7);
        c.dueWrong("{ a } }", 6);
        c.dueWrong("{ if a }", 7);
        c.dueRead("{ let { a } }", "{ let { a } }");
    }

    private static void ends(Checks c) {
        c.dueRead("do let a", "<{ do <{ let <{ a <} <} <}");
        c.dueRead("let let let", "<{ let <{ let <{ let <{ <} <} <} <}");
        c.dueRead("case a of", "<{ case a of <{ <} <}");
        c.dueWrong("(do", 3);
        c.dueWrong("{ let a", 7);
        c.dueWrong("let { a", 7);
        c.dueWrong("if do a  ", 9);
    }
}
