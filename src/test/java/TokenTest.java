/** Promise 8: token. */
public final class TokenTest {
    public static void main(String[] args) {
        Checks c = new Checks();
        LayoutFront x = Checks.with("", "abcdefg 999999999 000000012 ==>>==> (0)\n`a");
        int size = x.read();
        long[] due = {
            '{', '(', Checks.packed("abcdefg"), 999999999, 12, Checks.packed("==>>==>"), '(', 0, ')', ')',
            ';', '`', 'a', '}',
        };
        c.due("tokens", due.length, size);
        for (int i = 0; i < due.length; i++) {
            c.due("token(" + i + ")", due[i], x.token(i));
        }
        c.due("the first character is the lowest", 'a', x.token(2) & 255);
        for (int i : new int[] {-1, size, size + 1, Integer.MIN_VALUE, Integer.MAX_VALUE}) {
            c.dueThrow("token(" + i + ")", Checks.INDEX, () -> x.token(i));
        }
        Checks.rewrite(x, "a");
        x.read();
        c.dueThrow("behind the next read's last", Checks.INDEX, () -> x.token(3));
        Checks.rewrite(x, ")");
        c.dueThrow("read", Checks.ARGUMENT, () -> x.read());
        c.dueThrow("after a read that threw", Checks.INDEX, () -> x.token(0));
        Checks.rewrite(x, "\"");
        c.dueThrow("read", Checks.ARGUMENT, () -> x.read());
        c.dueThrow("after a read that threw", Checks.INDEX, () -> x.token(0));
        c.end();
    }
}
