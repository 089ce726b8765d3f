/** Promise 1: a new object. */
public final class NewObjectTest {
    public static void main(String[] args) {
        Checks c = new Checks();
        noText(c);
        noFixitiesSet(c);
        nothingRead(c);
        nothingOfAnother(c);
        c.end();
    }

    private static void noText(Checks c) {
        c.sentence("No text");
        c.due("erase", 0, new LayoutFront().erase());
        c.due("the first character", 1, new LayoutFront().write('a', 1));
        c.due("read", "<{ <}", Checks.readAndShown(new LayoutFront()));
        LayoutFront x = new LayoutFront();
        Checks.write(x, "a".repeat(240));
        c.due("room for all 240", 240, x.erase());
    }

    private static void noFixitiesSet(Checks c) {
        c.sentence("no fixities set");
        c.due("the first fixity", 1, new LayoutFront().fixity('+', 0, 6));
        c.due("a name of 0 is not there either", 1, new LayoutFront().fixity(0, 0, 6));
        c.dueRead("a + b * c", "<{ .( .( a + b .) * c .) <}");
        LayoutFront x = new LayoutFront();
        for (int i = 1; i <= 12; i++) {
            c.due("room for all 12", i, x.fixity(i, 0, 0));
        }
    }

    private static void nothingRead(Checks c) {
        c.sentence("a new object has read nothing");
        LayoutFront x = new LayoutFront();
        c.due("place", LayoutFront.NONE, x.place());
        for (int i = -1; i <= 1; i++) {
            int at = i;
            c.dueThrow("kind(" + i + ")", Checks.INDEX, () -> x.kind(at));
            c.dueThrow("token(" + i + ")", Checks.INDEX, () -> x.token(at));
        }
        for (int what = 0; what < 5; what++) {
            c.due("count(" + what + ")", 0, x.count(what));
        }
        Checks.write(x, "a b");
        c.due("what is written is not read", " | place -1 | counts 0 0 0 0 0", Checks.seen(x));
    }

    private static void nothingOfAnother(Checks c) {
        c.sentence("a new object has nothing of another one");
        LayoutFront other = Checks.with("+ 1 5", "a + b + c");
        other.read();
        LayoutFront fresh = new LayoutFront();
        c.due("tokens, place and counts", " | place -1 | counts 0 0 0 0 0", Checks.seen(fresh));
        c.due("text", 0, fresh.erase());
        Checks.write(fresh, "a + b + c");
        c.due("fixities", "<{ .( .( a + b .) + c .) <}", Checks.readAndShown(fresh));
        c.due("the other one's text", 9, other.erase());
        c.due("the other one's tokens", "<{ .( a + .( b + c .) .) <} | place -1 | counts 5 1 1 0 1", Checks.seen(other));
    }
}
