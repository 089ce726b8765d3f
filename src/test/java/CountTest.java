/** Promise 9: count. */
public final class CountTest {
    private static final String USUAL = "+ 0 6, == 2 4, <> 1 6";

    public static void main(String[] args) {
        Checks c = new Checks();
        counts(c, "", 0, 1, 0, 0, 0);
        counts(c, "a", 1, 1, 0, 0, 1);
        counts(c, "{ a }", 3, 0, 0, 0, 1);
        counts(c, "do { a }", 4, 1, 0, 0, 2);
        counts(c, "do where", 2, 3, 0, 0, 2);
        counts(c, "do\na", 2, 2, 0, 0, 1);
        counts(c, "let let let x", 4, 4, 0, 0, 7);
        counts(c, "((a)) [b]", 8, 1, 0, 0, 3);
        counts(c, "if a then b else c", 6, 1, 0, 0, 2);
        counts(c, "if if a then b else c then d else e", 11, 1, 0, 0, 3);
        counts(c, "case a of b", 4, 2, 0, 0, 2);
        counts(c, "let {a} let {b} in c", 10, 1, 0, 0, 4);
        counts(c, "a + b", 3, 1, 1, 0, 1);
        counts(c, "a + (b + [c + d])\n- e", 13, 1, 4, 0, 3);
        counts(c, "a == b == c = - d <> e", 10, 1, 0, 2, 1);
        counts(c, "a == (b + c) == d", 9, 1, 1, 1, 2);
        counts(c, "(+ a) (a +) + = + -", 12, 1, 0, 0, 2);
        counts(c, "{- a b c -} -- d", 0, 1, 0, 0, 0);
        latest(c);
        outside(c);
        c.end();
    }

    private static void counts(Checks c, String text, int... due) {
        LayoutFront x = Checks.with(USUAL, text);
        x.read();
        for (int what = 0; what < due.length; what++) {
            c.due("count(" + what + ") of\n" + text, due[what], x.count(what));
        }
    }

    private static void latest(Checks c) {
        LayoutFront x = Checks.with(USUAL, "do (a + b)\n   c == d == e");
        x.read();
        int[] due = {11, 2, 1, 1, 3};
        String[] later = {"((((", "a \"", "a ".repeat(91), "do do do ) a + b"};
        for (String text : later) {
            Checks.rewrite(x, text);
            c.due("throws", false, Checks.readAndShown(x).startsWith("<"));
            for (int what = 0; what < due.length; what++) {
                c.due("count(" + what + ") after a read that threw", due[what], x.count(what));
            }
        }
        Checks.rewrite(x, "");
        x.read();
        c.due("count(0) of the latest", 0, x.count(0));
        c.due("count(4) of the latest", 0, x.count(4));
    }

    private static void outside(Checks c) {
        LayoutFront x = new LayoutFront();
        for (int what : new int[] {-1, 5, 6, Integer.MIN_VALUE, Integer.MAX_VALUE}) {
            c.dueThrow("count(" + what + ")", Checks.INDEX, () -> x.count(what));
        }
    }
}
