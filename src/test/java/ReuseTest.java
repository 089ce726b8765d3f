/** Promises 3, 5 and 9: a read owes nothing to the reads before it but the fixities. */
public final class ReuseTest {
    private static final String FIXITIES = "+ 0 6, == 2 4, <> 1 6";
    private static final String[] TEXTS = {
        "do a\n   b", "a == b == c", "", "  a\n  b + c", "(((", "a + b + c == d", "a \"", "let let let x", "x",
        "a -- b", "a\n\n\n  {- b", "do b\n   c", "{ a", "- a <> b", "(a + b) == (- c)", "if a", "a", "in",
    };

    public static void main(String[] args) {
        Checks c = new Checks();
        everyTextBehindEveryOther(c);
        manyReads(c);
        c.end();
    }

    private static void everyTextBehindEveryOther(Checks c) {
        for (String before : TEXTS) {
            for (String text : TEXTS) {
                LayoutFront x = Checks.with(FIXITIES, before);
                Checks.readAndShown(x);
                Checks.rewrite(x, text);
                dueAsNew(c, x, text);
            }
        }
    }

    private static void manyReads(Checks c) {
        LayoutFront x = Checks.with(FIXITIES, "a == b == c + (d + e) <> f");
        for (int i = 0; i < 200; i++) {
            Checks.answerOf(() -> x.read());
        }
        Checks.rewrite(x, "a + b + c");
        dueAsNew(c, x, "a + b + c");
    }

    private static void dueAsNew(Checks c, LayoutFront x, String text) {
        LayoutFront fresh = Checks.with(FIXITIES, text);
        String due = Checks.readAndShown(fresh);
        c.due("read again of\n" + text, due, Checks.readAndShown(x));
        c.due("place", fresh.place(), x.place());
        for (int what = 0; fresh.place() == LayoutFront.NONE && what < 5; what++) {
            c.due("count(" + what + ") of\n" + text, fresh.count(what), x.count(what));
        }
    }
}
