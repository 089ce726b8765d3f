/** Promise 5, ROWS sentence by sentence: what a row is, and which rows stay as they are. */
public final class ReadRowsTest {
    private static final String USUAL =
            "+ 0 6, - 0 6, * 0 7, ^ 1 8, == 2 4, $ 1 0, . 1 9, div 0 7, <> 1 6, <+> 2 6";

    public static void main(String[] args) {
        Checks c = new Checks();
        oneBehindTheOther(c);
        operands(c);
        operations(c);
        otherQuotes(c);
        withinBrackets(c);
        noOperation(c);
        beginsWithOne(c);
        endsWithOne(c);
        twoOneBehindTheOther(c);
        dashAsTheSecond(c);
        applications(c);
        minus(c);
        c.end();
    }

    private static void row(Checks c, String text, String want) {
        c.dueRead(USUAL, text, "<{ " + want + " <}");
    }

    /** Such a row is neither put together nor in conflict. */
    private static void stays(Checks c, String text) {
        row(c, text, text);
        c.dueRows(USUAL, text, 0, 0);
    }

    private static void conflict(Checks c, String text) {
        row(c, text, text);
        c.dueRows(USUAL, text, 0, 1);
    }

    private static void oneBehindTheOther(Checks c) {
        c.sentence("In what there is then, a row is as many lexemes of one level of brackets one behind the other");
        row(c, "a + b = c + d", ".( a + b .) = .( c + d .)");
        row(c, "a + b ; c + d", ".( a + b .) ; .( c + d .)");
        row(c, "a + b , c + d", ".( a + b .) , .( c + d .)");
        row(c, "a + b { c + d } e + f", ".( a + b .) { .( c + d .) } .( e + f .)");
        row(c, "a + b {} + c", ".( a + b .) { } + c");
        row(c, "a + b\nc + d", ".( a + b .) <; .( c + d .)");
        row(c, "a + b\n + c", ".( .( a + b .) + c .)");
        row(c, "a\n+ b", "a <; + b");
        row(c, "a + do b + c", "a + do <{ .( b + c .) <}");
        row(c, "do a + b\n  + c", "do <{ .( a + b .) <} + c");
        row(c, "do a + b\n- c", "do <{ .( a + b .) <} <; .( - c .)");
        row(c, "a + b where\nc + d", ".( a + b .) where <{ <} <; .( c + d .)");
        row(c, "(do a) + b", ".( ( do <{ a <} ) + b .)");
        c.dueRead("{a + b}", "{ .( a + b .) }");
        c.dueRead("{} a + b", "{ } .( a + b .)");
    }

    private static void operands(Checks c) {
        c.sentence("operands: names that are no words, numbers, and \"(\" or \"[\" with all up to the bracket that closes it");
        row(c, "a + 1", ".( a + 1 .)");
        row(c, "_ + a'", ".( _ + a' .)");
        row(c, "() + []", ".( ( ) + [ ] .)");
        row(c, "(a b) + [c, d]", ".( ( a b ) + [ c , d ] .)");
        row(c, "([(a)]) + b", ".( ( [ ( a ) ] ) + b .)");
        row(c, "(a = b) + [c | d]", ".( ( a = b ) + [ c | d ] .)");
        row(c, "(do a; b) + c", ".( ( do <{ a ; b <} ) + c .)");
        row(c, "(let {a} in b) + c", ".( ( let { a } in b ) + c .)");
        row(c, "a + b if c + d then - e else f", ".( a + b .) if .( c + d .) then .( - e .) else f");
        row(c, "a + let {} b", "a + let { } b");
        row(c, "a + {b}", "a + { b }");
    }

    private static void operations(Checks c) {
        c.sentence("operations: operators that are not reserved, and a name that is no word between two `");
        row(c, "a + b", ".( a + b .)");
        row(c, "a : b", ".( a : b .)");
        row(c, "a + b -> c + d", ".( a + b .) -> .( c + d .)");
        row(c, "a + b @ c + d ~ e + f", ".( a + b .) @ .( c + d .) ~ .( e + f .)");
        row(c, "a + b \\ c + d :: e => f <- g | h", ".( a + b .) \\ .( c + d .) :: e => f <- g | h");
        row(c, "a + b .. c + d", ".( a + b .) .. .( c + d .)");
        row(c, "a `div` b", ".( a ` div ` b .)");
        row(c, "a ` div ` b", ".( a ` div ` b .)");
        row(c, "a `\n div\n ` b", ".( a ` div ` b .)");
        row(c, "a `{--}div{--}` b", ".( a ` div ` b .)");
        row(c, "a + b `div` c", ".( a + .( b ` div ` c .) .)");
        row(c, "a `f` b", ".( a ` f ` b .)");
        row(c, "a `f` b `g` c", ".( .( a ` f ` b .) ` g ` c .)");
        row(c, "1 `_` 2", ".( 1 ` _ ` 2 .)");
    }

    private static void otherQuotes(Checks c) {
        c.sentence("(A ` that is not so ends a row, and is none of it.)");
        row(c, "`", "`");
        row(c, "a + b `", ".( a + b .) `");
        row(c, "` a + b", "` .( a + b .)");
        row(c, "a + b ` c + d", ".( a + b .) ` .( c + d .)");
        row(c, "a + b `` c + d", ".( a + b .) ` ` .( c + d .)");
        row(c, "a + b `c d` - e", ".( a + b .) ` c d ` .( - e .)");
        row(c, "a `div` b `div c + d", ".( a ` div ` b .) ` .( div c + d .)");
        stays(c, "a ` 1 ` b");
        stays(c, "a ` + ` b");
        row(c, "a ` (f) ` b + c", "a ` ( f ) ` .( b + c .)");
        row(c, "a + b ` = ` c + d", ".( a + b .) ` = ` .( c + d .)");
        row(c, "a + b `where` c", ".( a + b .) ` where <{ ` c <}");
        row(c, "a + b `if` c then d else e", ".( a + b .) ` if ` c then d else e");
        row(c, "a + b `if c then d else e", ".( a + b .) ` if c then d else e");
        row(c, "a + b ```c` d", ".( a + b .) ` ` ` c ` d");
        row(c, "a + b ` `c` - d", ".( a + b .) ` ` c ` - d");
        row(c, "` a ` b ` c", "` a ` b ` c");
        row(c, "`a\nb` c", "` a <; b ` c");
        row(c, "a `b\n` c", "a ` b <; ` c");
        row(c, "(a `f) ` b", "( a ` f ) ` b");
    }

    private static void withinBrackets(Checks c) {
        c.sentence("Within brackets there are rows again.");
        row(c, "(a + b)", "( .( a + b .) )");
        row(c, "[a + b]", "[ .( a + b .) ]");
        row(c, "(a + b) * c", ".( ( .( a + b .) ) * c .)");
        row(c, "(+ (a + b))", "( + ( .( a + b .) ) )");
        row(c, "a == (b + c) == d", "a == ( .( b + c .) ) == d");
        row(c, "a + [b + c, d + e]", ".( a + [ .( b + c .) , .( d + e .) ] .)");
        row(c, "f (g (a + b)) + c", ".( f ( g ( .( a + b .) ) ) + c .)");
        row(c, "(do a + b) + c", ".( ( do <{ .( a + b .) <} ) + c .)");
        row(c, "(((a + b)))", "( ( ( .( a + b .) ) ) )");
        row(c, "(a + b) (c + d)", "( .( a + b .) ) ( .( c + d .) )");
        row(c, "a + (b)", ".( a + ( b ) .)");
        row(c, "(a +) b", "( a + ) b");
        row(c, "(a + b) +", "( .( a + b .) ) +");
        row(c, "[a ..] + [1 + 2 .. 3 + 4]", ".( [ a .. ] + [ .( 1 + 2 .) .. .( 3 + 4 .) ] .)");
        c.dueRows(USUAL, "a + (b + [c + d]) + (e)", 3, 0);
        c.dueRows(USUAL, "a == (b == c == d) == (e + f)", 1, 2);
    }

    private static void noOperation(Checks c) {
        c.sentence("A row that has no operation .. stays as it is.");
        stays(c, "a");
        stays(c, "1");
        stays(c, "( )");
        stays(c, "a b c");
        stays(c, "a ( b ) [ c ] 1");
        stays(c, "a = b");
    }

    private static void beginsWithOne(Checks c) {
        c.sentence("begins with one (but for \"-\")");
        stays(c, "+ a");
        stays(c, "+ a + b");
        stays(c, "+ - a");
        stays(c, "` div ` b");
        stays(c, "` f ` b + c");
        stays(c, "-> + a");
        row(c, "a + b = + c", ".( a + b .) = + c");
        row(c, "(+ a)", "( + a )");
        row(c, "(`f` a)", "( ` f ` a )");
        row(c, "- a", ".( - a .)");
        row(c, "(- a)", "( .( - a .) )");
        c.dueRows(USUAL, "- a", 1, 0);
    }

    private static void endsWithOne(Checks c) {
        c.sentence("ends with one");
        stays(c, "a +");
        stays(c, "a -");
        stays(c, "a ` div `");
        stays(c, "a + b +");
        stays(c, "a + b -");
        stays(c, "- a -");
        stays(c, "+");
        stays(c, "-");
        stays(c, "- -");
        stays(c, "a + -");
        stays(c, "a == b == c +");
        row(c, "(a +)", "( a + )");
        row(c, "(-)", "( - )");
        row(c, "a + , b + c", "a + , .( b + c .)");
        row(c, "a + if b then c else d", "a + if b then c else d");
    }

    private static void twoOneBehindTheOther(Checks c) {
        c.sentence("or has two one behind the other");
        stays(c, "a + * b");
        stays(c, "a + + b");
        stays(c, "a - + b");
        stays(c, "- + a");
        stays(c, "a == - * b");
        stays(c, "a ` div ` ` div ` b");
        stays(c, "a + ` div ` b");
        stays(c, "a - ` div ` b");
        stays(c, "a + b + * c");
        stays(c, "a + * b + c");
        stays(c, "a == b == c + * d");
    }

    private static void dashAsTheSecond(Checks c) {
        c.sentence("(but for \"-\" as the second one)");
        row(c, "a == - b", ".( a == .( - b .) .)");
        row(c, "a $ - b", ".( a $ .( - b .) .)");
        conflict(c, "a + - b");
        conflict(c, "a - - b");
        conflict(c, "- - a");
        conflict(c, "a == - - b");
        conflict(c, "a - - - b");
        conflict(c, "a ` div ` - b");
        c.dueRead("div 0 5", "a `div` - b", "<{ .( a ` div ` .( - b .) .) <}");
        c.dueRead("- 0 5", "a - - b", "<{ .( a - .( - b .) .) <}");
    }

    private static void applications(Checks c) {
        c.sentence("Operands one behind the other are one (an application).");
        row(c, "f a + g b 1", ".( f a + g b 1 .)");
        row(c, "f (a) [b] + 2", ".( f ( a ) [ b ] + 2 .)");
        row(c, "1 2 * (a) (b) + [c] d", ".( .( 1 2 * ( a ) ( b ) .) + [ c ] d .)");
        row(c, "a + f b\n  c", ".( a + f b c .)");
        row(c, "- f a b", ".( - f a b .)");
        row(c, "f a * g b + h c", ".( .( f a * g b .) + h c .)");
    }

    private static void minus(Checks c) {
        c.sentence("A \"-\" before which there is an operation, or nothing, is a MINUS.");
        row(c, "- a == b", ".( .( - a .) == b .)");
        row(c, "a - b", ".( a - b .)");
        row(c, "(a) - b", ".( ( a ) - b .)");
        row(c, "a (- b)", "a ( .( - b .) )");
        row(c, "[- a, - b]", "[ .( - a .) , .( - b .) ]");
        row(c, "a = - b", "a = .( - b .)");
        row(c, "a ` - b", "a ` .( - b .)");
        row(c, "a ; - b", "a ; .( - b .)");
        row(c, "a\n- b", "a <; .( - b .)");
        row(c, "a\n - b", ".( a - b .)");
        row(c, "do - a", "do <{ .( - a .) <}");
        row(c, "if - a then - b else - c", "if .( - a .) then .( - b .) else .( - c .)");
        row(c, "a == - b == c", "a == - b == c");
        row(c, "a -> - b", "a -> .( - b .)");
    }
}
