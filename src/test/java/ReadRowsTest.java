/** Promise 5, what is put in for operations. */
public final class ReadRowsTest {
    private static final String USUAL =
            "+ 0 6, - 0 6, * 0 7, ^ 1 8, == 2 4, $ 1 0, . 1 9, div 0 7, <> 1 6, <+> 2 6";

    public static void main(String[] args) {
        Checks c = new Checks();
        sides(c);
        levels(c);
        minus(c);
        minusConflicts(c);
        broken(c);
        operands(c);
        quotes(c);
        nested(c);
        c.end();
    }

    private static void row(Checks c, String text, String want) {
        c.dueRead(USUAL, text, "<{ " + want + " <}");
    }

    private static void stays(Checks c, String text) {
        row(c, text, text);
    }

    private static void sides(Checks c) {
        row(c, "a + b", ".( a + b .)");
        row(c, "a + b + c", ".( .( a + b .) + c .)");
        row(c, "a $ b $ c", ".( a $ .( b $ c .) .)");
        row(c, "a == b", ".( a == b .)");
        stays(c, "a == b == c");
        row(c, "a + b - c + d", ".( .( .( a + b .) - c .) + d .)");
        row(c, "a ! b ! c", ".( .( a ! b .) ! c .)");
        stays(c, "a + b <> c");
        stays(c, "a <> b + c");
        stays(c, "a <+> b <> c");
        stays(c, "a <+> b <+> c");
        stays(c, "a ! b . c");
        stays(c, "a . b ! c");
    }

    private static void levels(Checks c) {
        row(c, "a + b * c", ".( a + .( b * c .) .)");
        row(c, "a * b + c", ".( .( a * b .) + c .)");
        row(c, "a == b + c * d ^ e ^ f", ".( a == .( b + .( c * .( d ^ .( e ^ f .) .) .) .) .)");
        row(c, "a ^ b * c + d == e $ f", ".( .( .( .( .( a ^ b .) * c .) + d .) == e .) $ f .)");
        row(c, "a == b * c $ d == e", ".( .( a == .( b * c .) .) $ .( d == e .) .)");
        stays(c, "a == b + c == d");
        row(c, "a <> b * c <> d", ".( a <> .( .( b * c .) <> d .) .)");
        stays(c, "a + b * c ^ d <> e");
        row(c, "a ! b + c", ".( .( a ! b .) + c .)");
        row(c, "a : b", ".( a : b .)");
    }

    private static void minus(Checks c) {
        row(c, "- a", ".( - a .)");
        row(c, "- a + b", ".( .( - a .) + b .)");
        row(c, "- a * b", ".( - .( a * b .) .)");
        row(c, "- a == b", ".( .( - a .) == b .)");
        row(c, "a == - b", ".( a == .( - b .) .)");
        row(c, "a == - b * c", ".( a == .( - .( b * c .) .) .)");
        row(c, "a == - b + c", ".( a == .( .( - b .) + c .) .)");
        row(c, "a $ - b == - c", ".( a $ .( .( - b .) == .( - c .) .) .)");
        row(c, "- a - b", ".( .( - a .) - b .)");
        row(c, "a = - b", "a = .( - b .)");
        row(c, "- f a b", ".( - f a b .)");
        row(c, "(- a)", "( .( - a .) )");
        c.dueRead("- 0 2", "a == - b - c", "<{ a == - b - c <}");
        c.dueRead("- 0 2, == 2 1", "a == - b - c", "<{ .( a == .( .( - b .) - c .) .) <}");
        c.dueRead("- 1 8", "- a - b", "<{ .( - .( a - b .) .) <}");
    }

    private static void minusConflicts(Checks c) {
        stays(c, "a + - b");
        stays(c, "a * - b");
        stays(c, "a - - b");
        stays(c, "- - a");
        stays(c, "a == - - b");
        stays(c, "a ! - b");
        stays(c, "- a <> b");
        stays(c, "- a <+> b");
        stays(c, "- a * b <> c");
        stays(c, "a == b * - c");
        row(c, "a * b == - c", ".( .( a * b .) == .( - c .) .)");
        c.dueRead("+ 1 5", "a + - b + c", "<{ .( a + .( .( - b .) + c .) .) <}");
        c.dueRead("+ 2 6", "a + - b", "<{ a + - b <}");
    }

    private static void broken(Checks c) {
        stays(c, "a b c");
        stays(c, "+ a");
        stays(c, "+ a + b");
        stays(c, "a +");
        stays(c, "a + b +");
        stays(c, "a + b -");
        stays(c, "-");
        stays(c, "- -");
        stays(c, "+");
        stays(c, "a + * b");
        stays(c, "a - + b");
        stays(c, "- + a");
        stays(c, "a == - * b");
        row(c, "a + b = + c", ".( a + b .) = + c");
        row(c, "a + b = c + d", ".( a + b .) = .( c + d .)");
        row(c, "a + , b + c", "a + , .( b + c .)");
    }

    private static void operands(Checks c) {
        row(c, "f a + g b 1", ".( f a + g b 1 .)");
        row(c, "f (a) [b] + 2", ".( f ( a ) [ b ] + 2 .)");
        row(c, "a + b if c + d then - e else f", ".( a + b .) if .( c + d .) then .( - e .) else f");
        row(c, "a + b -> c + d", ".( a + b .) -> .( c + d .)");
        row(c, "a + b @ c + d ~ e + f", ".( a + b .) @ .( c + d .) ~ .( e + f .)");
        row(c, "a + b \\ c + d :: e => f <- g | h", ".( a + b .) \\ .( c + d .) :: e => f <- g | h");
        row(c, "a + b .. c + d", ".( a + b .) .. .( c + d .)");
        row(c, "a + b { c + d } e + f", ".( a + b .) { .( c + d .) } .( e + f .)");
        row(c, "a + b ; c + d", ".( a + b .) ; .( c + d .)");
        row(c, "a + b\nc + d", ".( a + b .) <; .( c + d .)");
        row(c, "a + b\n + c", ".( .( a + b .) + c .)");
        row(c, "a\n+ b", "a <; + b");
        row(c, "a + do b + c", "a + do <{ .( b + c .) <}");
        row(c, "do a + b\n- c", "do <{ .( a + b .) <} <; .( - c .)");
    }

    private static void quotes(Checks c) {
        row(c, "a `div` b", ".( a ` div ` b .)");
        row(c, "a ` div ` b", ".( a ` div ` b .)");
        row(c, "a + b `div` c", ".( a + .( b ` div ` c .) .)");
        row(c, "a `f` b", ".( a ` f ` b .)");
        stays(c, "a ` f ` - b");
        stays(c, "a ` div ` ` div ` b");
        stays(c, "` div ` b");
        stays(c, "a ` div `");
        row(c, "a + b ` c + d", ".( a + b .) ` .( c + d .)");
        row(c, "a + b `c d` - e", ".( a + b .) ` c d ` .( - e .)");
        row(c, "a `div` b `div c + d", ".( a ` div ` b .) ` .( div c + d .)");
        stays(c, "a ` 1 ` b");
        row(c, "a + b `where` c", ".( a + b .) ` where <{ ` c <}");
        stays(c, "a ` + ` b");
        row(c, "a + b `if c then d else e", ".( a + b .) ` if c then d else e");
        row(c, "a + b ```c` d", ".( a + b .) ` ` ` c ` d");
        row(c, "a + b ` `c` - d", ".( a + b .) ` ` c ` - d");
        row(c, "` a ` b ` c", "` a ` b ` c");
        row(c, "`a\nb` c", "` a <; b ` c");
    }

    private static void nested(Checks c) {
        row(c, "(a + b) * c", ".( ( .( a + b .) ) * c .)");
        row(c, "(+ (a + b))", "( + ( .( a + b .) ) )");
        row(c, "a == (b + c) == d", "a == ( .( b + c .) ) == d");
        row(c, "a + [b + c, d + e]", ".( a + [ .( b + c .) , .( d + e .) ] .)");
        row(c, "f (g (a + b)) + c", ".( f ( g ( .( a + b .) ) ) + c .)");
        row(c, "(do a + b) + c", ".( ( do <{ .( a + b .) <} ) + c .)");
        row(c, "(((a + b)))", "( ( ( .( a + b .) ) ) )");
        row(c, "(a + b) (c + d)", "( .( a + b .) ) ( .( c + d .) )");
        row(c, "(+) + ()", ".( ( + ) + ( ) .)");
        row(c, "[a ..] + [1 + 2 .. 3 + 4]", ".( [ a .. ] + [ .( 1 + 2 .) .. .( 3 + 4 .) ] .)");
    }
}
