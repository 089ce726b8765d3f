/** Promise 9: count. */
public final class CountTest {
    private static final String USUAL = "+ 0 6, == 2 4, <> 1 6";

    public static void main(String[] args) {
        Checks c = new Checks();
        lexemes(c);
        blocks(c);
        rowsPutTogether(c);
        rowsInConflict(c);
        mostOpen(c);
        allOfThem(c);
        beforeARead(c);
        behindAReadThatThrew(c);
        ofTheLatest(c);
        outside(c);
        c.end();
    }

    private static void count(Checks c, int what, String text, int due) {
        LayoutFront x = Checks.with(USUAL, text);
        x.read();
        c.due("count(" + what + ") of\n" + text, due, x.count(what));
    }

    private static void lexemes(Checks c) {
        c.sentence("lexemes (0)");
        count(c, 0, "", 0);
        count(c, 0, "{- a b c -} -- d", 0);
        count(c, 0, "a", 1);
        count(c, 0, "{}", 2);
        count(c, 0, "a\nb", 2);
        count(c, 0, "a `f` b + c", 7);
        count(c, 0, "do do do", 3);
        count(c, 0, "a ".repeat(89), 89);
        count(c, 0, "a ".repeat(90), 90);
    }

    private static void blocks(Checks c) {
        c.sentence("blocks that are not of the text's braces (1)");
        count(c, 1, "{}", 0);
        count(c, 1, "{ { a } }", 0);
        count(c, 1, "a", 1);
        count(c, 1, "", 1);
        count(c, 1, "do {}", 1);
        count(c, 1, "do a", 2);
        count(c, 1, "do", 2);
        count(c, 1, "do\na", 2);
        count(c, 1, "do where", 3);
        count(c, 1, "a\nb\nc", 1);
        count(c, 1, "{} do\na", 1);
        count(c, 1, "let a in case b of c where do d", 5);
        count(c, 1, "do\n".repeat(80), 81);
    }

    private static void rowsPutTogether(Checks c) {
        c.sentence("rows that were put together (2)");
        count(c, 2, "", 0);
        count(c, 2, "a b", 0);
        count(c, 2, "a +", 0);
        count(c, 2, "+ a", 0);
        count(c, 2, "a + + b", 0);
        count(c, 2, "a == b == c", 0);
        count(c, 2, "a + b", 1);
        count(c, 2, "- a", 1);
        count(c, 2, "a + b + c + d", 1);
        count(c, 2, "a + b = c + d", 2);
        count(c, 2, "a + (b + [c + d])\n- e", 4);
        count(c, 2, "-a,".repeat(30), 30);
    }

    private static void rowsInConflict(Checks c) {
        c.sentence("in conflict (3)");
        count(c, 3, "", 0);
        count(c, 3, "a + b", 0);
        count(c, 3, "a + + b", 0);
        count(c, 3, "a == b == c +", 0);
        count(c, 3, "a == b == c", 1);
        count(c, 3, "a == b == c == d", 1);
        count(c, 3, "a + b <> c", 1);
        count(c, 3, "- a <> b", 1);
        count(c, 3, "a + - b", 1);
        count(c, 3, "- - a", 1);
        count(c, 3, "a == b == c = - d <> e", 2);
        count(c, 3, "a == (b == c == d) == e", 2);
    }

    private static void mostOpen(Checks c) {
        c.sentence("the greatest number of things that were open at once (4)");
        count(c, 4, "", 0);
        count(c, 4, "{- a -}", 0);
        count(c, 4, "a", 1);
        count(c, 4, "{}", 1);
        count(c, 4, "{ { } }", 2);
        count(c, 4, "{} {}", 1);
        count(c, 4, "do {}", 2);
        count(c, 4, "do a", 2);
        count(c, 4, "do", 1);
        count(c, 4, "do\na", 1);
        count(c, 4, "let {}", 3);
        count(c, 4, "let a", 3);
        count(c, 4, "let", 2);
        count(c, 4, "()", 2);
        count(c, 4, "[]", 2);
        count(c, 4, "([])", 3);
        count(c, 4, "() [] () []", 2);
        count(c, 4, "if a then b else c", 2);
        count(c, 4, "if a then (b) else c", 3);
        count(c, 4, "if if a then b else c then d else e", 3);
        count(c, 4, "case a of {}", 2);
        count(c, 4, "case (a) of {}", 3);
        count(c, 4, "case a of b", 2);
        count(c, 4, "let let let x", 7);
        count(c, 4, "let {} let {} in b", 4);
        count(c, 4, "let {} ; let {} ; let {}", 3);
        count(c, 4, "let {}\nlet {}\nlet {}", 3);
        count(c, 4, "(do a, do b, do c)", 3);
        count(c, 4, "do a\ndo b\ndo c", 2);
        count(c, 4, "(((a))) b", 4);
        count(c, 4, "(".repeat(45) + ")".repeat(45), 46);
        count(c, 4, "let ".repeat(60), 120);
    }

    private static void allOfThem(Checks c) {
        c.sentence("Of the latest read that did not throw: lexemes (0), blocks .. (1), rows .. (2), in conflict (3); .. (4)");
        counts(c, "{ a }", "3 0 0 0 1");
        counts(c, "a + (b + [c + d])\n- e", "13 1 4 0 3");
        counts(c, "a == (b + c) == d", "9 1 1 1 2");
        counts(c, "(+ a) (a +) + = + -", "12 1 0 0 2");
    }

    private static void counts(Checks c, String text, String due) {
        LayoutFront x = Checks.with(USUAL, text);
        x.read();
        c.due("counts of\n" + text, due, Checks.seen(x).replaceAll("(?s).*counts ", ""));
    }

    private static void beforeARead(Checks c) {
        c.sentence("Of the latest read that did not throw: there was none");
        LayoutFront x = Checks.with(USUAL, "a )");
        for (int what = 0; what < 5; what++) {
            c.due("count(" + what + ") before a read", 0, x.count(what));
        }
        c.dueThrow("wrong", Checks.ARGUMENT, () -> x.read());
        for (int what = 0; what < 5; what++) {
            c.due("count(" + what + ") behind one that threw", 0, x.count(what));
        }
    }

    private static void behindAReadThatThrew(Checks c) {
        c.sentence("Of the latest read that did not throw: behind one that threw");
        LayoutFront x = Checks.with(USUAL, "do (a + b)\n   c == d == e");
        x.read();
        int[] due = {11, 2, 1, 1, 3};
        String[] later = {"((((", "a \"", "{-", "abcdefgh", "a ".repeat(91), "do do do ) a + b", "- a <> b }", "let let let let ]"};
        for (String text : later) {
            Checks.rewrite(x, text);
            c.due("throws", true, Checks.readAndShown(x).startsWith("Illegal"));
            for (int what = 0; what < due.length; what++) {
                c.due("count(" + what + ") behind a read that threw", due[what], x.count(what));
            }
        }
    }

    private static void ofTheLatest(Checks c) {
        c.sentence("Of the latest read that did not throw: of no other one");
        LayoutFront x = Checks.with(USUAL, "do (a + b)\n   c == d == e");
        x.read();
        Checks.rewrite(x, "");
        c.due("before the next read", 11, x.count(0));
        x.read();
        c.due("behind the next read", "<{ <} | place -1 | counts 0 1 0 0 0", Checks.seen(x));
    }

    private static void outside(Checks c) {
        c.sentence("IndexOutOfBoundsException, for another what");
        LayoutFront x = new LayoutFront();
        for (int times = 0; times < 2; times++) {
            for (int what : new int[] {-1, 5, 6, 256, Integer.MIN_VALUE, Integer.MAX_VALUE}) {
                c.dueThrow("count(" + what + ")", Checks.INDEX, () -> x.count(what));
            }
            c.due("the first what", times, Math.min(1, x.count(0)));
            c.due("the last what", times, Math.min(1, x.count(4)));
            Checks.write(x, "a");
            x.read();
        }
    }
}
