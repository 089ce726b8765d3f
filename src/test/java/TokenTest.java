/** Promise 8: token. */
public final class TokenTest {
    public static void main(String[] args) {
        Checks c = new Checks();
        tokens(c);
        numbers(c);
        characters(c);
        firstAndLast(c);
        whenThereAreNone(c);
        c.end();
    }

    private static void tokens(Checks c) {
        c.sentence("What token i is: the number; else its characters in the lowest bytes, the first one the lowest.");
        LayoutFront x = Checks.with("", "abcdefg 999999999 000000012 ==>>==> (0)\n`a");
        int size = x.read();
        long[] due = {
            '{', '(', Checks.packed("abcdefg"), 999999999, 12, Checks.packed("==>>==>"), '(', 0, ')', ')',
            ';', '`', 'a', '}',
        };
        c.due("tokens", due.length, size);
        for (int i = 0; i < due.length; i++) {
            c.due("token(" + i + ")", due[i], x.token(i));
        }
    }

    private static long second(String text) {
        LayoutFront x = Checks.with("", text);
        x.read();
        return x.token(1);
    }

    private static void numbers(Checks c) {
        c.sentence("the number");
        c.due("0", 0, second("0"));
        c.due("000000000", 0, second("000000000"));
        c.due("000000001", 1, second("000000001"));
        c.due("9", 9, second("9"));
        c.due("10", 10, second("10"));
        c.due("0123", 123, second("0123"));
        c.due("123456789", 123456789, second("123456789"));
        c.due("999999999", 999999999, second("999999999"));
        c.due("100000000", 100000000, second("100000000"));
    }

    private static void characters(Checks c) {
        c.sentence("its characters in the lowest bytes, the first one the lowest");
        c.due("one", 'a', second("a"));
        c.due("two", 'a' | 'b' << 8, second("ab"));
        c.due("seven", 0x67666564636261L, second("abcdefg"));
        c.due("seven of an operator", 0x7e7e7e7e7e7e7eL, second("~~~~~~~"));
        c.due("a word", 0x6f64L, second("do {}"));
        c.due("put in for operations", '(', second("a + b"));
        c.due("put in for blocks", '}', second(""));
        for (String sign : new String[] {",", ";", "`", "()", "[]"}) {
            c.due("a sign", sign.charAt(0), second(sign));
        }
        LayoutFront x = Checks.with("", "{[({;})]}");
        x.read();
        for (int i = 0; i < 9; i++) {
            c.due("each sign of the text", "{[({;})]}".charAt(i), x.token(i));
        }
    }

    private static void firstAndLast(Checks c) {
        c.sentence("IndexOutOfBoundsException, when there is none");
        LayoutFront x = Checks.with("", "a b");
        c.due("tokens", 4, x.read());
        c.due("the first", '{', x.token(0));
        c.due("the last", '}', x.token(3));
        for (int i : new int[] {-1, 4, 5, 89, 90, 91, 1 << 16, Integer.MIN_VALUE, Integer.MAX_VALUE}) {
            c.dueThrow("token(" + i + ")", Checks.INDEX, () -> x.token(i));
        }
        Checks.rewrite(x, "{");
        c.due("the last, before the next read", '}', x.token(3));
        Checks.write(x, "}");
        c.due("tokens of the next read", 2, x.read());
        c.due("the last of the next read", '}', x.token(1));
        c.dueThrow("behind it", Checks.INDEX, () -> x.token(2));
        Checks.rewrite(x, "do\n".repeat(80));
        c.due("many", 321, x.read());
        c.due("the last of many", '}', x.token(320));
        c.dueThrow("behind many", Checks.INDEX, () -> x.token(321));
    }

    private static void whenThereAreNone(Checks c) {
        c.sentence("IndexOutOfBoundsException, when there is none: no tokens");
        LayoutFront x = new LayoutFront();
        c.dueThrow("of a new object", Checks.INDEX, () -> x.token(0));
        Checks.write(x, "a");
        c.dueThrow("before a read", Checks.INDEX, () -> x.token(0));
        x.read();
        c.due("behind a read", 'a', x.token(1));
        for (String text : new String[] {")", "a \"", "(", "a ".repeat(91)}) {
            Checks.rewrite(x, text);
            Checks.answerOf(() -> x.read());
            c.dueThrow("behind a read that threw", Checks.INDEX, () -> x.token(0));
            c.dueThrow("behind a read that threw, -1", Checks.INDEX, () -> x.token(-1));
        }
    }
}
