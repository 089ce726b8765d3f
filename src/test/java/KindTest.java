/** Promise 7: kind. */
public final class KindTest {
    public static void main(String[] args) {
        Checks c = new Checks();
        LayoutFront x = Checks.with("+ 0 6", "do f 12 + `g` ;\nlet {x = (1 + y)}");
        int size = x.read();
        // < do < f 12 + ` g ` ; < < let { x = ( < 1 + y < ) } <
        int[] due = {4, 0, 4, 0, 1, 2, 3, 0, 3, 3, 4, 4, 0, 3, 0, 2, 3, 5, 1, 2, 0, 5, 3, 3, 4};
        c.due("tokens", due.length, size);
        for (int i = 0; i < due.length; i++) {
            c.due("kind(" + i + ")", due[i], x.kind(i));
        }
        for (int i : new int[] {-1, size, size + 1, Integer.MIN_VALUE, Integer.MAX_VALUE}) {
            c.dueThrow("kind(" + i + ")", Checks.INDEX, () -> x.kind(i));
        }
        Checks.rewrite(x, "a");
        c.due("before the next read", 4, x.kind(24));
        x.read();
        c.dueThrow("behind the next read's last", Checks.INDEX, () -> x.kind(3));
        Checks.rewrite(x, ")");
        c.dueThrow("read", Checks.ARGUMENT, () -> x.read());
        c.dueThrow("after a read that threw", Checks.INDEX, () -> x.kind(0));
        Checks.rewrite(x, "a ".repeat(91));
        c.dueThrow("read", Checks.STATE, () -> x.read());
        c.dueThrow("after a read that threw", Checks.INDEX, () -> x.kind(0));
        c.end();
    }
}
