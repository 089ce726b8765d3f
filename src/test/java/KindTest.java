/** Promise 7: kind. */
public final class KindTest {
    public static void main(String[] args) {
        Checks c = new Checks();
        kinds(c);
        eachKind(c);
        firstAndLast(c);
        whenThereAreNone(c);
        c.end();
    }

    private static void kinds(Checks c) {
        c.sentence("Token i: 0 a name, 1 a number, 2 an operator, 3 a sign of the text, 4 put in for blocks, 5 put in for operations");
        LayoutFront x = Checks.with("+ 0 6", "do f 12 + `g` ;\nlet {x = (1 + y)}");
        int size = x.read();
        // < do < f 12 + ` g ` ; < < let { x = ( < 1 + y < ) } <
        int[] due = {4, 0, 4, 0, 1, 2, 3, 0, 3, 3, 4, 4, 0, 3, 0, 2, 3, 5, 1, 2, 0, 5, 3, 3, 4};
        c.due("tokens", due.length, size);
        for (int i = 0; i < due.length; i++) {
            c.due("kind(" + i + ")", due[i], x.kind(i));
        }
    }

    private static void eachKind(Checks c) {
        String[] names = {"a", "_", "x'", "where", "do"};
        for (String name : names) {
            second(c, "0 a name", name, 0);
        }
        second(c, "1 a number", "0", 1);
        second(c, "1 a number", "999999999", 1);
        second(c, "2 an operator", "+", 2);
        second(c, "2 an operator", "=", 2);
        second(c, "2 an operator", "-->", 2);
        second(c, "3 a sign of the text", ";", 3);
        second(c, "3 a sign of the text", "` a", 3);
        second(c, "3 a sign of the text", "()", 3);
        second(c, "3 a sign of the text", "[]", 3);
        second(c, "3 a sign of the text: the braces too", "do {}", 0);
        second(c, "4 put in for blocks", "", 4);
        second(c, "5 put in for operations", "- a", 5);
        LayoutFront x = Checks.with("", "{;}");
        x.read();
        c.sentence("3 a sign of the text: the same characters as those that are put in");
        for (int i = 0; i < 3; i++) {
            c.due("kind(" + i + ") of {;}", 3, x.kind(i));
        }
        Checks.rewrite(x, " a\n b");
        x.read();
        c.sentence("4 put in for blocks");
        c.due("{", 4, x.kind(0));
        c.due(";", 4, x.kind(2));
        c.due("}", 4, x.kind(4));
    }

    private static void second(Checks c, String sentence, String text, int due) {
        c.sentence(sentence);
        LayoutFront x = Checks.with("", text);
        x.read();
        c.due("kind(1) of " + text, due, x.kind(1));
    }

    private static void firstAndLast(Checks c) {
        c.sentence("IndexOutOfBoundsException, when there is none");
        LayoutFront x = Checks.with("", "a b");
        c.due("tokens", 4, x.read());
        c.due("the first", 4, x.kind(0));
        c.due("the last", 4, x.kind(3));
        for (int i : new int[] {-1, 4, 5, 89, 90, 91, 1 << 16, Integer.MIN_VALUE, Integer.MAX_VALUE}) {
            c.dueThrow("kind(" + i + ")", Checks.INDEX, () -> x.kind(i));
        }
        Checks.rewrite(x, "{");
        c.due("the last, before the next read", 4, x.kind(3));
        Checks.write(x, "}");
        c.due("tokens of the next read", 2, x.read());
        c.due("the last of the next read", 3, x.kind(1));
        c.dueThrow("behind it", Checks.INDEX, () -> x.kind(2));
        Checks.rewrite(x, "do\n".repeat(80));
        c.due("many", 321, x.read());
        c.due("the last of many", 4, x.kind(320));
        c.dueThrow("behind many", Checks.INDEX, () -> x.kind(321));
    }

    private static void whenThereAreNone(Checks c) {
        c.sentence("IndexOutOfBoundsException, when there is none: no tokens");
        LayoutFront x = new LayoutFront();
        c.dueThrow("of a new object", Checks.INDEX, () -> x.kind(0));
        Checks.write(x, "a");
        c.dueThrow("before a read", Checks.INDEX, () -> x.kind(0));
        x.read();
        c.due("behind a read", 0, x.kind(1));
        for (String text : new String[] {")", "a \"", "(", "a ".repeat(91)}) {
            Checks.rewrite(x, text);
            Checks.answerOf(() -> x.read());
            c.dueThrow("behind a read that threw", Checks.INDEX, () -> x.kind(0));
            c.dueThrow("behind a read that threw, -1", Checks.INDEX, () -> x.kind(-1));
        }
    }
}
