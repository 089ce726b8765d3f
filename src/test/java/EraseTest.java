/** Promise 3: erase. */
public final class EraseTest {
    public static void main(String[] args) {
        Checks c = new Checks();
        LayoutFront x = Checks.with("+ 0 6", "a + b");
        int size = x.read();
        String before = Checks.shown(x, size);
        c.due("erase", 5, x.erase());
        c.due("what was read stays", before, Checks.shown(x, size));
        c.due("count stays", 3, x.count(0));
        c.due("place stays", LayoutFront.NONE, x.place());
        c.due("nothing is left", 0, x.erase());
        c.due("the text is empty", "<{ <}", Checks.readAndShown(x));
        Checks.write(x, "c + d + e");
        c.due("fixities stay", "<{ .( .( c + d .) + e .) <}", Checks.readAndShown(x));

        Checks.rewrite(x, "a )");
        c.dueThrow("wrong", Checks.ARGUMENT, () -> x.read());
        x.erase();
        c.due("the place of what was wrong stays", 2, x.place());
        c.end();
    }
}
