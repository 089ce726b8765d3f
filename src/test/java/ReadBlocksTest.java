/** Promise 5, BLOCKS sentence by sentence: what is put in, and what must be and is not. */
public final class ReadBlocksTest {
    public static void main(String[] args) {
        Checks c = new Checks();
        whatHasAMark(c);
        whatBeginsABlockHasNone(c);
        marksClose(c);
        marksCloseBelowLets(c);
        marksStop(c);
        marksOfTheSameColumn(c);
        marksOfTheSameColumnBelowLets(c);
        openers(c);
        enders(c);
        endersStopAtBraces(c);
        thenElseOf(c);
        in(c);
        brackets(c);
        commas(c);
        commasWithoutBracket(c);
        openingBrace(c);
        closingBrace(c);
        semicolon(c);
        firstBlock(c);
        nextIsABrace(c);
        begunByTheEnd(c);
        begunAbove(c);
        begunNotAbove(c);
        markOfABegunBlock(c);
        theEnd(c);
        nothingElseMayBeOpen(c);
        c.end();
    }

    private static void whatHasAMark(Checks c) {
        c.sentence("if the lexeme is the first one in its line, not the first one of the text");
        c.dueRead("a\nb", "<{ a <; b <}");
        c.dueRead("a b\nc d", "<{ a b <; c d <}");
        c.dueRead("\n\n a", "<{ a <}");
        c.dueRead("\n{ a }", "{ a }");
        c.dueRead("a\n\n\nb", "<{ a <; b <}");
        c.dueRead("a -- x\n-- y\nb", "<{ a <; b <}");
        c.dueRead("do a {- \n -}b", "<{ do <{ a <; b <} <}");
        c.dueRead("do a\n{- -} b", "<{ do <{ a b <} <}");
        c.dueRead("do a\n{--}b", "<{ do <{ a b <} <}");
        c.dueRead("do a\n{-\n-}b", "<{ do <{ a <} b <}");
        c.dueRead("a\n;b", "<{ a <; ; b <}");
        c.dueRead("a\n=\n,\n`", "<{ a <; = <; , <; ` <}");
        c.dueRead("if a\nthen b\nelse c\nd", "<{ if a then b else c <; d <}");
        c.dueRead("case a\nof b", "<{ case a of <{ b <} <}");
        c.dueWrong("a\n)", 2);
    }

    private static void whatBeginsABlockHasNone(Checks c) {
        c.sentence("and does not begin a block (see below)");
        c.dueRead("do\n a", "<{ do <{ a <} <}");
        c.dueRead("do\n a\n b", "<{ do <{ a <; b <} <}");
        c.dueRead("do a\n   do\n    b", "<{ do <{ a <; do <{ b <} <} <}");
        c.dueRead("do\n{a}\nb", "<{ do <; { a } <; b <}");
        c.dueRead("do\n {a\nb}\nc", "<{ do { a b } <; c <}");
        c.dueRead("do { do\n{a} }", "<{ do { do { a } } <}");
    }

    private static void marksClose(Checks c) {
        c.sentence("a block of a column above it is on top: .. \"}\" is put in, and the block is closed");
        c.dueRead("do a\n  b", "<{ do <{ a <} b <}");
        c.dueRead("do a\n   b\n  c", "<{ do <{ a <; b <} c <}");
        c.dueRead("do a\n    b", "<{ do <{ a b <} <}");
        c.dueRead("do do do a\nb", "<{ do <{ do <{ do <{ a <} <} <} <; b <}");
        c.dueRead("do do do a\n  b", "<{ do <{ do <{ do <{ a <} <} <} b <}");
        c.dueRead("do do do a\n     b", "<{ do <{ do <{ do <{ a <} <} b <} <}");
        c.dueRead("do do do a\n      b", "<{ do <{ do <{ do <{ a <} <; b <} <} <}");
        c.dueRead("  a\n b", "<{ a <} b");
        c.dueRead("  a\n b\n  c", "<{ a <} b c");
    }

    private static void marksCloseBelowLets(Checks c) {
        c.sentence("as long as, below any LETs on top, a block .. is on top: the LETs are no more open");
        c.dueRead("do let {a}\n  b", "<{ do <{ let { a } <} b <}");
        c.dueWrong("do let {a}\n  in b", 13);
        c.dueRead("do do let {a} let {b}\nc", "<{ do <{ do <{ let { a } let { b } <} <} <; c <}");
        c.dueRead("let {a} do let {b}\n  in c", "<{ let { a } do <{ let { b } <} in c <}");
        c.dueRead("let {a} do let {b}\n  c in d", "<{ let { a } do <{ let { b } <} c in d <}");
        c.dueRead("let a\n in b", "<{ let <{ a <} in b <}");
        c.dueRead("let a\n   b in c", "<{ let <{ a <} b in c <}");
    }

    private static void marksStop(Checks c) {
        c.sentence("as long as .. a block of a column above it is on top: not another thing");
        c.dueRead("do (a\nb)", "<{ do <{ ( a b ) <} <}");
        c.dueRead("do [a\nb]", "<{ do <{ [ a b ] <} <}");
        c.dueRead("do if a\nthen b else c", "<{ do <{ if a then b else c <} <}");
        c.dueRead("do if a then b\nelse c", "<{ do <{ if a then b else c <} <}");
        c.dueRead("do case a\nof {b}", "<{ do <{ case a of { b } <} <}");
        c.dueRead("do {a\nb}", "<{ do { a b } <}");
        c.dueRead("do do {a\nb}\nc", "<{ do <{ do { a b } <} <; c <}");
        c.dueRead("(do a\nb)", "<{ ( do <{ a <} b ) <}");
        c.dueRead("do (let {a}\nin b)", "<{ do <{ ( let { a } in b ) <} <}");
    }

    private static void marksOfTheSameColumn(Checks c) {
        c.sentence("then, if .. there is a block of this column: .. \";\" is put in");
        c.dueRead("do a\n   b\n    c\nd", "<{ do <{ a <; b c <} <; d <}");
        c.dueRead("  a\n  b\n   c", "<{ a <; b c <}");
        c.dueRead("do (a\n   b)", "<{ do <{ ( a b ) <} <}");
        c.dueRead("(a\nb)", "<{ ( a b ) <}");
        c.dueRead("if a\nthen b\nelse c", "<{ if a then b else c <}");
        c.dueRead("{a\nb}", "{ a b }");
        c.dueRead("{ a }\nb\nc", "{ a } b c");
    }

    private static void marksOfTheSameColumnBelowLets(Checks c) {
        c.sentence("then, if below any LETs on top there is a block of this column: the LETs are no more open");
        c.dueRead("let {a}\nb", "<{ let { a } <; b <}");
        c.dueWrong("let {a}\nin b", 8);
        c.dueWrong("let a\nin b", 6);
        c.dueRead("do let a\n   b", "<{ do <{ let <{ a <} <; b <} <}");
        c.dueWrong("do let a\n   in b", 12);
        c.dueRead("do let a\n    in b", "<{ do <{ let <{ a <} in b <} <}");
        c.dueWrong("do let {a} let {b}\n   in c", 22);
        c.dueRead("do let {a} let {b}\n    in c in d", "<{ do <{ let { a } let { b } in c in d <} <}");
        c.dueWrong("do let {a} let {b}\n    in c\n   in d", 31);
    }

    private static void openers(Checks c) {
        c.sentence("\"(\", \"[\", if, case: that is open. let: LET is open.");
        c.dueWrong("(", 1);
        c.dueWrong("[", 1);
        c.dueWrong("if", 2);
        c.dueWrong("case", 4);
        c.dueRead("let", "<{ let <{ <} <}");
        c.dueRead("()[]", "<{ ( ) [ ] <}");
        c.dueRead("([([])])", "<{ ( [ ( [ ] ) ] ) <}");
        c.dueRead("if then else", "<{ if then else <}");
        c.dueRead("case of", "<{ case of <{ <} <}");
        c.dueRead("let in", "<{ let <{ <} in <}");
    }

    /** What is open (X), what else is on top of it, and each lexeme that must find something. */
    private static void enders(Checks c) {
        c.sentence("as long as a LET (but for in) or a block that is not of column 0 is on top, .. then there must be on top");
        String[] things = {"x ", "let {} ", "if x ", "if x then x ", "case x ", "( x ", "[ x ", "do { x "};
        String[] above = {"", "do y ", "let {} ", "let y ", "do let {} "};
        for (int x = 0; x < things.length; x++) {
            for (int on = 0; on < above.length; on++) {
                ender(c, things[x] + above[on], "then", x == 2);
                ender(c, things[x] + above[on], "else", x == 3);
                ender(c, things[x] + above[on], "of", x == 4);
                ender(c, things[x] + above[on], "in", x == 1 && on <= 1 || on >= 2);
                ender(c, things[x] + above[on], ")", x == 5);
                ender(c, things[x] + above[on], "]", x == 6);
                ender(c, things[x] + above[on], "}", x == 7 && (on == 0 || on == 2));
            }
        }
    }

    private static void ender(Checks c, String before, String lexeme, boolean fits) {
        LayoutFront x = Checks.with("", before + lexeme);
        Checks.answerOf(() -> x.read());
        c.due("the last lexeme is wrong: " + before + lexeme, !fits, x.place() == before.length());
    }

    private static void endersStopAtBraces(Checks c) {
        c.sentence("a block that is not of column 0");
        c.dueWrong("if { a then b", 7);
        c.dueWrong("if a then { b else c", 14);
        c.dueWrong("case { a of", 9);
        c.dueWrong("let { a in", 8);
        c.dueWrong("( { )", 4);
        c.dueWrong("[ { ]", 4);
        c.dueWrong("if { do a then", 10);
    }

    private static void thenElseOf(Checks c) {
        c.sentence("IF (which becomes THEN), THEN, CASE");
        c.dueRead("if a then b else c", "<{ if a then b else c <}");
        c.dueRead("if do a then do b else do c", "<{ if do <{ a <} then do <{ b <} else do <{ c <} <}");
        c.dueRead("if let a then b else c", "<{ if let <{ a <} then b else c <}");
        c.dueRead("if do let {a} then b else c", "<{ if do <{ let { a } <} then b else c <}");
        c.dueRead("if if a then b else c then d else e", "<{ if if a then b else c then d else e <}");
        c.dueRead("if a then if b then c else d else e", "<{ if a then if b then c else d else e <}");
        c.dueRead("case do a of b", "<{ case do <{ a <} of <{ b <} <}");
        c.dueRead("case a of { b }", "<{ case a of { b } <}");
        c.dueRead("case case a of b of c", "<{ case case a of <{ b <} of <{ c <} <}");
        c.dueWrong("if a else b", 5);
        c.dueWrong("if a then b then c", 12);
        c.dueWrong("if a then b else c else d", 19);
        c.dueWrong("case a of b of c", 12);
        c.dueWrong("case a then", 7);
        c.dueWrong("if (a then b)", 6);
        c.dueRead("do if a\n   then b\n   else c\n   d", "<{ do <{ if a then b else c <; d <} <}");
        c.dueWrong("do if a then b\n   then c", 18);
    }

    private static void in(Checks c) {
        c.sentence("a LET (but for in)");
        c.dueRead("let a in b", "<{ let <{ a <} in b <}");
        c.dueRead("let a\n    b in c", "<{ let <{ a <; b <} in c <}");
        c.dueRead("let a = let b in c in d", "<{ let <{ a = let <{ b <} in c <} in d <}");
        c.dueRead("let { a } in b", "<{ let { a } in b <}");
        c.dueRead("let let a in b in c", "<{ let <{ let <{ a <} in b <} in c <}");
        c.dueRead("let (let a) in b", "<{ let <{ ( let <{ a <} ) <} in b <}");
        c.dueRead("let {a} let {b} in c in d", "<{ let { a } let { b } in c in d <}");
        c.dueRead("let do do a in b", "<{ let <{ do <{ do <{ a <} <} <} in b <}");
        c.dueWrong("let {a} in b in c", 13);
        c.dueWrong("let a in b in c", 11);
        c.dueWrong("let if a in b", 9);
        c.dueWrong("let\nin", 4);
        c.dueWrong("in", 0);
    }

    private static void brackets(Checks c) {
        c.sentence("\"(\", \"[\" (which are no more open)");
        c.dueRead("(do a)", "<{ ( do <{ a <} ) <}");
        c.dueRead("[do do a]", "<{ [ do <{ do <{ a <} <} ] <}");
        c.dueRead("(let do a) b", "<{ ( let <{ do <{ a <} <} ) b <}");
        c.dueRead("(let {a} let {b})", "<{ ( let { a } let { b } ) <}");
        c.dueRead("(if a then b else c)", "<{ ( if a then b else c ) <}");
        c.dueRead("do (do a) b", "<{ do <{ ( do <{ a <} ) b <} <}");
        c.dueWrong("(let a) in", 8);
        c.dueWrong("(a]", 2);
        c.dueWrong("[a)", 2);
        c.dueWrong("([)]", 2);
        c.dueWrong("a )", 2);
        c.dueWrong("(a))", 3);
        c.dueWrong("(if a)", 5);
        c.dueWrong("(if a then b)", 12);
        c.dueWrong("(case a)", 7);
    }

    private static void commas(Checks c) {
        c.sentence("if below LETs and blocks that are not of column 0 there is \"(\" or \"[\", all these are no more open");
        c.dueRead("(do a, b)", "<{ ( do <{ a <} , b ) <}");
        c.dueRead("[let a, do do b, c]", "<{ [ let <{ a <} , do <{ do <{ b <} <} , c ] <}");
        c.dueRead("(case x of 1 -> do a; b, 2)", "<{ ( case x of <{ 1 -> do <{ a ; b <} <} , 2 ) <}");
        c.dueRead("(a, b)", "<{ ( a , b ) <}");
        c.dueRead("(,)", "<{ ( , ) <}");
        c.dueRead("(do , a)", "<{ ( do <{ <} , a ) <}");
        c.dueRead("(do let {a} do let {b}, c)", "<{ ( do <{ let { a } do <{ let { b } <} <} , c ) <}");
        c.dueWrong("(let {a}, b in c)", 12);
        c.dueWrong("(let a, b in c)", 10);
        c.dueRead("let (a, b) in c", "<{ let <{ ( a , b ) <} in c <}");
        c.dueRead("[a, (b, do c), d]", "<{ [ a , ( b , do <{ c <} ) , d ] <}");
    }

    private static void commasWithoutBracket(Checks c) {
        c.sentence("else nothing");
        c.dueRead("a, b", "<{ a , b <}");
        c.dueRead("do a, b", "<{ do <{ a , b <} <}");
        c.dueRead("let {a}, b in c", "<{ let { a } , b in c <}");
        c.dueRead("let a, b in c", "<{ let <{ a , b <} in c <}");
        c.dueRead("(do {a, b}, c)", "<{ ( do { a , b } , c ) <}");
        c.dueRead("({do a, b\n}, c)", "<{ ( { do <{ a , b <} } , c ) <}");
        c.dueRead("(if do a, b then c else d)", "<{ ( if do <{ a , b <} then c else d ) <}");
        c.dueRead("(if a then do b, c else d)", "<{ ( if a then do <{ b , c <} else d ) <}");
        c.dueRead("(case do a, b of c)", "<{ ( case do <{ a , b <} of <{ c <} ) <}");
        c.dueRead("(a) do b, c", "<{ ( a ) do <{ b , c <} <}");
    }

    private static void openingBrace(Checks c) {
        c.sentence("\"{\": a block of column 0 is open");
        c.dueRead("do { a ; b }", "<{ do { a ; b } <}");
        c.dueRead("do {\na\n;b\n}\nc", "<{ do { a ; b } <; c <}");
        c.dueRead("a { b }", "<{ a { b } <}");
        c.dueRead("{ { a } }", "{ { a } }");
        c.dueRead("{}{}", "{ } { }");
        c.dueRead("{ a\nb }", "{ a b }");
    }

    private static void closingBrace(Checks c) {
        c.sentence("\"}\": LETs on top are no more open; on top must be a block of column 0, which is closed");
        c.dueRead("{let {a} }", "{ let { a } }");
        c.dueRead("{let {a} let {b} }", "{ let { a } let { b } }");
        c.dueWrong("{let {a} } in", 11);
        c.dueWrong("}", 0);
        c.dueWrong("} a", 0);
        c.dueWrong("a }", 2);
        c.dueWrong("{ do a }", 7);
        c.dueWrong("{ let a }", 8);
        c.dueRead("{ do a\n}", "{ do <{ a <} }");
        c.dueWrong("{do\na\n}", 6);
        c.dueRead("{ let a\n}", "{ let <{ a <} }");
        c.dueWrong("{ a } }", 6);
        c.dueWrong("{ if a }", 7);
        c.dueWrong("{ if a then b }", 14);
        c.dueWrong("{ case a }", 9);
        c.dueWrong("{ ( }", 4);
        c.dueWrong("{ [ }", 4);
        c.dueWrong("let {} }", 7);
    }

    private static void semicolon(Checks c) {
        c.sentence("\";\": LETs on top are no more open");
        c.dueWrong("let {a} ; in", 10);
        c.dueWrong("let {a} let {b} ; in", 18);
        c.dueRead("do let {a} ; let {b} in c", "<{ do <{ let { a } ; let { b } in c <} <}");
        c.dueRead("let a ; b in c", "<{ let <{ a ; b <} in c <}");
        c.dueRead("let {a} (; ) in b", "<{ let { a } ( ; ) in b <}");
        c.dueRead("if ; then ; else ;", "<{ if ; then ; else ; <}");
        c.dueRead("do a ; b", "<{ do <{ a ; b <} <}");
        c.dueRead(";", "<{ ; <}");
    }

    private static void firstBlock(Checks c) {
        c.sentence("and before the first lexeme: if the next lexeme is no \"{\", a block is BEGUN by the next lexeme");
        c.dueRead("a", "<{ a <}");
        c.dueRead(" a", "<{ a <}");
        c.dueRead("{}", "{ }");
        c.dueRead(" { a }", "{ a }");
        c.dueRead("{ a } do b", "{ a } do <{ b <}");
        c.dueRead("{ a } do {b}", "{ a } do { b }");
        c.dueRead("do a", "<{ do <{ a <} <}");
        c.dueRead("  do\n do\na", "<{ do <{ <} <} do <{ a <}");
        c.dueRead("{} do\na", "{ } do <{ a <}");
    }

    private static void nextIsABrace(Checks c) {
        c.sentence("Behind let, where, do, of .. if the next lexeme is no \"{\"");
        for (String word : new String[] {"let", "where", "do"}) {
            c.dueRead(word + " {}", "<{ " + word + " { } <}");
            c.dueRead(word + "{}", "<{ " + word + " { } <}");
            c.dueRead(word + " {- -} {}", "<{ " + word + " { } <}");
            c.dueRead(word + "\n {}", "<{ " + word + " { } <}");
            c.dueRead(word + " a", "<{ " + word + " <{ a <} <}");
            c.dueRead(word + " (){}", "<{ " + word + " <{ ( ) { } <} <}");
        }
        c.dueRead("case a of {}", "<{ case a of { } <}");
        c.dueRead("case a of\n {}", "<{ case a of { } <}");
        c.dueRead("if a then b else c\n", "<{ if a then b else c <}");
        c.dueRead("let {} in a", "<{ let { } in a <}");
        c.dueRead("do' a", "<{ do' a <}");
        c.dueRead("do;a", "<{ do <{ ; a <} <}");
        c.dueWrong("do )", 3);
        c.dueWrong("do }", 3);
    }

    private static void begunByTheEnd(Checks c) {
        c.sentence("(or by the end): n is its column (0 at the end)");
        c.dueRead("", "<{ <}");
        c.dueRead("do", "<{ do <{ <} <}");
        c.dueRead("do\n", "<{ do <{ <} <}");
        c.dueRead("do -- a", "<{ do <{ <} <}");
        c.dueRead("a where", "<{ a where <{ <} <}");
        c.dueRead("let", "<{ let <{ <} <}");
        c.dueRead("case a of", "<{ case a of <{ <} <}");
        c.dueRead("do do where", "<{ do <{ do <{ where <{ <} <} <} <}");
        c.dueRead("{} do", "{ } do <{ <}");
        c.dueWrong("{ do", 4);
        c.dueWrong("(do", 3);
    }

    private static void begunAbove(Checks c) {
        c.sentence("If n is above the column of the latest block that is open (0 without one)");
        c.dueRead("a\nwhere\n b", "<{ a <; where <{ b <} <}");
        c.dueRead("do a\n   do\n    b\n    c", "<{ do <{ a <; do <{ b <; c <} <} <}");
        c.dueRead("a where b\n        c", "<{ a where <{ b <; c <} <}");
        c.dueRead("{} do\na\nb", "{ } do <{ a <; b <}");
        c.dueWrong("{do\na\nb\n}", 8);
        c.dueRead(" {do\n a\n b\n}", "{ do <{ a <; b <} }");
        c.dueWrong("do {do\na\n;b}", 11);
        c.dueRead("do (do\n    a)", "<{ do <{ ( do <{ a <} ) <} <}");
        c.dueRead("(do )", "<{ ( do <{ <} ) <}");
        c.dueRead("do let\n    in a", "<{ do <{ let <{ <} in a <} <}");
        c.dueRead("do {(do\n  a)}", "<{ do { ( do <{ a <} ) } <}");
    }

    private static void begunNotAbove(Checks c) {
        c.sentence("Else \"{\" and \"}\" are put in");
        c.dueRead("do\na", "<{ do <{ <} <; a <}");
        c.dueRead("let\na", "<{ let <{ <} <; a <}");
        c.dueRead("a where\nb", "<{ a where <{ <} <; b <}");
        c.dueRead("case a of\nb", "<{ case a of <{ <} <; b <}");
        c.dueRead("do a\n   do\n   b", "<{ do <{ a <; do <{ <} <; b <} <}");
        c.dueRead("do (do\n   a)", "<{ do <{ ( do <{ <} a ) <} <}");
        c.dueRead("do\n  (do\n  a)", "<{ do <{ ( do <{ <} a ) <} <}");
        c.dueRead("do\n  (do\n a)", "<{ do <{ ( do <{ <} a ) <} <}");
        c.dueWrong("do { do\na }", 10);
    }

    private static void markOfABegunBlock(Checks c) {
        c.sentence("and the next lexeme, if there is one, has a mark of n");
        c.dueRead("do a\n   do\n  b", "<{ do <{ a <; do <{ <} <} b <}");
        c.dueRead("do do a\n      do\nb", "<{ do <{ do <{ a <; do <{ <} <} <} <; b <}");
        c.dueRead("do      case a\n of b", "<{ do <{ case a of <{ <} <} b <}");
        c.dueRead("do  case a\n of b", "<{ do <{ case a of <{ <} <; b <} <}");
        c.dueRead("do case a\n of b", "<{ do <{ case a of <{ b <} <} <}");
        c.dueWrong("do let\n   in a", 10);
    }

    private static void theEnd(Checks c) {
        c.sentence("At the end: each LET and block that is not of column 0, from the top: it is no more open");
        c.dueRead("do let a", "<{ do <{ let <{ a <} <} <}");
        c.dueRead("do let {a}", "<{ do <{ let { a } <} <}");
        c.dueRead("let {a} let {b}", "<{ let { a } let { b } <}");
        c.dueRead("let let let", "<{ let <{ let <{ let <{ <} <} <} <}");
        c.dueRead("{} let {}", "{ } let { }");
        c.dueRead("{}", "{ }");
    }

    private static void nothingElseMayBeOpen(Checks c) {
        c.sentence("nothing else may be open");
        c.dueWrong("if a ", 5);
        c.dueWrong("if a then b", 11);
        c.dueWrong("case a b", 8);
        c.dueWrong("( a", 3);
        c.dueWrong("[ a", 3);
        c.dueWrong("( a \n ", 6);
        c.dueWrong("{ a", 3);
        c.dueWrong("do { a", 6);
        c.dueWrong("{ let a", 7);
        c.dueWrong("let { a", 7);
        c.dueWrong("if do a  ", 9);
        c.dueWrong("(let {a} -- b", 13);
        c.dueWrong("[let a", 6);
        c.dueWrong("{ {- -}", 7);
        c.dueWrong("case let {} {--}\n", 17);
    }
}
