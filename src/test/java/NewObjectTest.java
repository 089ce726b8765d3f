/** Promise 1: no text, no fixities set; nothing read. */
public final class NewObjectTest {
    public static void main(String[] args) {
        Checks c = new Checks();
        LayoutFront x = new LayoutFront();
        c.due("place", LayoutFront.NONE, x.place());
        c.dueThrow("kind(0)", Checks.INDEX, () -> x.kind(0));
        c.dueThrow("token(0)", Checks.INDEX, () -> x.token(0));
        for (int what = 0; what < 5; what++) {
            c.due("count(" + what + ")", 0, x.count(what));
        }
        c.due("erase", 0, x.erase());
        c.due("first fixity", 1, x.fixity(43, 0, 6));
        c.due("first character", 1, new LayoutFront().write('a', 1));

        LayoutFront other = Checks.with("+ 1 5", "a b c");
        other.read();
        LayoutFront fresh = new LayoutFront();
        c.due("another object's text", 0, fresh.erase());
        c.dueThrow("another object's tokens", Checks.INDEX, () -> fresh.token(0));
        c.due("another object's fixities", 1, fresh.fixity(43, 0, 6));
        c.end();
    }
}
