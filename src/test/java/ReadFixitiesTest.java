/** Promise 5, FIXITIES sentence by sentence: how a row is put together, and when it is in conflict. */
public final class ReadFixitiesTest {
    private static final String USUAL =
            "+ 0 6, - 0 6, * 0 7, ^ 1 8, == 2 4, $ 1 0, . 1 9, div 0 7, <> 1 6, <+> 2 6";

    public static void main(String[] args) {
        Checks c = new Checks();
        nothingElseSet(c);
        aMinusIsLeftAndSix(c);
        sameLevel(c);
        otherLevels(c);
        theNextIsMet(c);
        conflictBehindOthers(c);
        minusThatComes(c);
        minusThatWaits(c);
        theEnd(c);
        aroundEach(c);
        aRowInConflict(c);
        c.end();
    }

    private static void row(Checks c, String text, String want) {
        c.dueRead(USUAL, text, "<{ " + want + " <}");
    }

    private static void conflict(Checks c, String fixities, String text) {
        c.dueRead(fixities, text, "<{ " + text + " <}");
        c.dueRows(fixities, text, 0, 1);
    }

    private static void nothingElseSet(Checks c) {
        c.sentence("an operation has a side .. and a level 0 .. 9: 0 and 9, if nothing else is set");
        c.dueRead("a ! b ! c", "<{ .( .( a ! b .) ! c .) <}");
        c.dueRead("a ! b # c", "<{ .( .( a ! b .) # c .) <}");
        c.dueRead("a `f` b - c", "<{ .( .( a ` f ` b .) - c .) <}");
        c.dueRead("# 0 8", "a # b ! c", "<{ .( a # .( b ! c .) .) <}");
        c.dueRead("# 0 9", "a # b ! c", "<{ .( .( a # b .) ! c .) <}");
        conflict(c, "# 1 9", "a # b ! c");
        conflict(c, "# 2 9", "a ! b # c");
        c.dueRead("# 1 8", "a ! b # c", "<{ .( .( a ! b .) # c .) <}");
        c.dueRead("! 0 0, ! 1 0", "a ! b ! c", "<{ .( a ! .( b ! c .) .) <}");
    }

    private static void aMinusIsLeftAndSix(Checks c) {
        c.sentence("a minus is left and 6");
        for (String dash : new String[] {"- 0 0", "- 1 9", "- 2 6", "- 0 6"}) {
            c.dueRead(dash + ", + 0 6", "- a + b", "<{ .( .( - a .) + b .) <}");
            c.dueRead(dash + ", * 0 7", "- a * b", "<{ .( - .( a * b .) .) <}");
            c.dueRead(dash + ", < 0 5", "- a < b", "<{ .( .( - a .) < b .) <}");
        }
        c.dueRead("- 1 8", "- a - b", "<{ .( - .( a - b .) .) <}");
        c.dueRead("- 0 5", "- a - b", "<{ .( .( - a .) - b .) <}");
        conflict(c, "- 1 6", "- a - b");
        c.dueRead("- 0 2, == 2 1", "a == - b - c", "<{ .( a == .( .( - b .) - c .) .) <}");
        conflict(c, "- 0 2", "a == - b - c");
    }

    /** All nine pairs of sides at each level. */
    private static void sameLevel(Checks c) {
        c.sentence("if both have the same level, and not the same side, or the side 2, the row is in CONFLICT");
        for (int level = 0; level <= 9; level++) {
            for (int first = 0; first <= 2; first++) {
                for (int second = 0; second <= 2; second++) {
                    String due = first != second || first == 2 ? "a ! b # c"
                            : first == 0 ? ".( .( a ! b .) # c .)" : ".( a ! .( b # c .) .)";
                    String fixities = "! " + first + " " + level + ", # " + second + " " + level;
                    c.dueRead(fixities, "a ! b # c", "<{ " + due + " <}");
                    c.dueRows(fixities, "a ! b # c", due.startsWith("a") ? 0 : 1, due.startsWith("a") ? 1 : 0);
                }
            }
        }
        conflict(c, "! 2 3", "a ! b ! c");
        c.dueRead("! 2 3", "a ! b", "<{ .( a ! b .) <}");
    }

    /** All pairs of unlike levels with all pairs of sides: sides play no part. */
    private static void otherLevels(Checks c) {
        c.sentence("if the one that waits has a greater level .. it gets its sides .. else it waits, too");
        for (int first = 0; first <= 9; first++) {
            for (int second = 0; second <= 9; second++) {
                for (int sides = 0; sides < 9 && first != second; sides++) {
                    String due = first > second ? ".( .( a ! b .) # c .)" : ".( a ! .( b # c .) .)";
                    String fixities = "! " + sides / 3 + " " + first + ", # " + sides % 3 + " " + second;
                    c.dueRead(fixities, "a ! b # c", "<{ " + due + " <}");
                }
            }
        }
    }

    private static void theNextIsMet(Checks c) {
        c.sentence("and the next one that waits is met");
        row(c, "a == b + c * d ^ e ^ f", ".( a == .( b + .( c * .( d ^ .( e ^ f .) .) .) .) .)");
        row(c, "a ^ b * c + d == e $ f", ".( .( .( .( .( a ^ b .) * c .) + d .) == e .) $ f .)");
        row(c, "a $ b == c + d * e ^ f $ g", ".( a $ .( .( b == .( c + .( d * .( e ^ f .) .) .) .) $ g .) .)");
        row(c, "a + b * c ^ d + e", ".( .( a + .( b * .( c ^ d .) .) .) + e .)");
        row(c, "a == b * c $ d == e", ".( .( a == .( b * c .) .) $ .( d == e .) .)");
        row(c, "a <> b * c <> d", ".( a <> .( .( b * c .) <> d .) .)");
        row(c, "a + b - c + d", ".( .( .( a + b .) - c .) + d .)");
        row(c, "a + b * c * d", ".( a + .( .( b * c .) * d .) .)");
    }

    private static void conflictBehindOthers(Checks c) {
        c.sentence("an operation that comes meets those that wait, from the latest on");
        conflict(c, USUAL, "a == b + c == d");
        conflict(c, USUAL, "a + b * c ^ d <> e");
        conflict(c, USUAL, "a <> b * c + d");
        conflict(c, USUAL, "a + b <> c");
        conflict(c, USUAL, "a <+> b <+> c");
        conflict(c, USUAL, "a $ b == c == d");
        conflict(c, USUAL, "a + b + c <> d");
        row(c, "a + b == c <> d", ".( .( a + b .) == .( c <> d .) .)");
        row(c, "a == b $ c == d", ".( .( a == b .) $ .( c == d .) .)");
        row(c, "a <+> b == c <+> d", ".( .( a <+> b .) == .( c <+> d .) .)");
    }

    /** A minus behind an operation of each level and side. */
    private static void minusThatComes(Checks c) {
        c.sentence("A minus that comes when the latest one that waits has a level of 6 or more is a conflict, else it waits.");
        for (int level = 0; level <= 9; level++) {
            for (int side = 0; side <= 2; side++) {
                String fixities = "! " + side + " " + level;
                if (level >= 6) {
                    conflict(c, fixities, "a ! - b");
                } else {
                    c.dueRead(fixities, "a ! - b", "<{ .( a ! .( - b .) .) <}");
                }
            }
        }
        c.dueRead("- a", "<{ .( - a .) <}");
        conflict(c, "", "- - a");
        conflict(c, USUAL, "a == - - b");
        conflict(c, USUAL, "a == b * - c");
        conflict(c, USUAL, "a $ b + - c");
        row(c, "a * b == - c", ".( .( a * b .) == .( - c .) .)");
        row(c, "a * b $ - c == - d", ".( .( a * b .) $ .( .( - c .) == .( - d .) .) .)");
    }

    /** An operation of each level and side behind a minus. */
    private static void minusThatWaits(Checks c) {
        c.sentence("it gets its sides (a minus what is behind it)");
        for (int level = 0; level <= 9; level++) {
            for (int side = 0; side <= 2; side++) {
                String fixities = "! " + side + " " + level;
                if (level == 6 && side != 0) {
                    conflict(c, fixities, "- a ! b");
                } else {
                    String due = level > 6 ? ".( - .( a ! b .) .)" : ".( .( - a .) ! b .)";
                    c.dueRead(fixities, "- a ! b", "<{ " + due + " <}");
                }
            }
        }
        conflict(c, USUAL, "- a * b <> c");
        conflict(c, USUAL, "- a <+> b");
        row(c, "- a * b + c", ".( .( - .( a * b .) .) + c .)");
        row(c, "a == - b * c", ".( a == .( - .( b * c .) .) .)");
        row(c, "a == - b + c", ".( a == .( .( - b .) + c .) .)");
        row(c, "a $ - b ^ c ^ d $ e", ".( a $ .( .( - .( b ^ .( c ^ d .) .) .) $ e .) .)");
    }

    private static void theEnd(Checks c) {
        c.sentence("At the end all that wait get their sides, from the latest on.");
        row(c, "a $ b", ".( a $ b .)");
        row(c, "a $ b $ c", ".( a $ .( b $ c .) .)");
        row(c, "a $ b $ c $ d", ".( a $ .( b $ .( c $ d .) .) .)");
        row(c, "a $ - b * c ^ d", ".( a $ .( - .( b * .( c ^ d .) .) .) .)");
    }

    private static void aroundEach(Checks c) {
        c.sentence("Around each operation with its sides (or a minus with what is behind it) \"(\" and \")\" are put in.");
        row(c, "a + b", ".( a + b .)");
        row(c, "f a + g b", ".( f a + g b .)");
        row(c, "a `div` b", ".( a ` div ` b .)");
        row(c, "(a) + (b)", ".( ( a ) + ( b ) .)");
        row(c, "- a - b", ".( .( - a .) - b .)");
        row(c, "- (a)", ".( - ( a ) .)");
        row(c, "- (- a)", ".( - ( .( - a .) ) .)");
        LayoutFront x = Checks.with(USUAL, "- a + b * c");
        c.due("three pairs more than the lexemes and the block", 14, x.read());
        c.due("kind of what opens", 5, x.kind(1));
        c.due("what opens", '(', x.token(1));
        c.due("kind of what closes", 5, x.kind(12));
        c.due("what closes", ')', x.token(12));
    }

    private static void aRowInConflict(Checks c) {
        c.sentence("A row in conflict stays as it is.");
        conflict(c, USUAL, "a == b == c");
        conflict(c, USUAL, "a + b * c == d == e");
        conflict(c, USUAL, "a ! b . c");
        conflict(c, USUAL, "- a + b * c <> d");
        row(c, "a == b == c = a + b", "a == b == c = .( a + b .)");
        row(c, "a + b = a == b == c", ".( a + b .) = a == b == c");
        row(c, "a == b == c , - a <> b , a + b", "a == b == c , - a <> b , .( a + b .)");
        c.dueRows(USUAL, "a == b == c , - a <> b , a + b", 1, 2);
        row(c, "(a == b == c) + d", ".( ( a == b == c ) + d .)");
        c.dueRows(USUAL, "(a == b == c) + d", 1, 1);
        row(c, "a == (b + c) == d", "a == ( .( b + c .) ) == d");
        c.dueRows(USUAL, "a == (b + c) == d", 1, 1);
    }
}
