/** Promise 6: place. */
public final class PlaceTest {
    public static void main(String[] args) {
        Checks c = new Checks();
        LayoutFront x = new LayoutFront();
        c.due("before any read", LayoutFront.NONE, x.place());
        wrong(c, x, "a \"", 2);
        wrong(c, x, "a  {- b", 3);
        wrong(c, x, "a   abcdefgh", 4);
        wrong(c, x, "a\n  1234567890", 4);
        wrong(c, x, "a\n   ++++++++", 5);
        wrong(c, x, "(a]", 2);
        wrong(c, x, "(a  ", 4);
        wrong(c, x, "", LayoutFront.NONE);
        wrong(c, x, "\"", 0);
        c.due("asked twice", 0, x.place());
        Checks.write(x, " b");
        c.due("after a write", 0, x.place());
        Checks.rewrite(x, "a b");
        c.due("after an erase", 0, x.place());
        x.read();
        c.due("after a read that did not throw", LayoutFront.NONE, x.place());
        Checks.rewrite(x, "a\n".repeat(91));
        c.dueThrow("91 lexemes", Checks.STATE, () -> x.read());
        c.due("the 91st lexeme", 180, x.place());
        wrong(c, x, "in", 0);
        c.end();
    }

    private static void wrong(Checks c, LayoutFront x, String text, int place) {
        Checks.rewrite(x, text);
        c.dueThrow("read of " + text, place == LayoutFront.NONE ? "2" : Checks.ARGUMENT, () -> x.read());
        c.due("place in " + text, place, x.place());
    }
}
