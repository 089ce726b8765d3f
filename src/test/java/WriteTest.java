/** Promise 2: write. */
public final class WriteTest {
    private static final long EIGHT_A = Checks.packed("aaaaaaaa");

    public static void main(String[] args) {
        Checks c = new Checks();
        lowestBytes(c);
        howMany(c);
        wrongNumber(c);
        wrongCharacter(c);
        tooMany(c);
        argumentsFirst(c);
        c.end();
    }

    private static void lowestBytes(Checks c) {
        c.sentence("The n lowest bytes of eight come as characters behind the text, the lowest first");
        LayoutFront x = new LayoutFront();
        x.write(Checks.packed("abc (de)"), 8);
        x.write(Checks.packed("fgh"), 1);
        x.write(Checks.packed("\n-"), 2);
        c.due("lowest first", "<{ abc ( de ) f <; - <}", Checks.readAndShown(x));

        for (int n = 1; n <= 7; n++) {
            LayoutFront y = new LayoutFront();
            String name = "abcdefg".substring(0, n);
            c.due("bytes above the lowest " + n + " are not looked at", n, y.write(-1L << 8 * n | Checks.packed(name), n));
            c.due("and do not come", "<{ " + name + " <}", Checks.readAndShown(y));
        }
        c.due("the lowest alone, all others no characters", 1, new LayoutFront().write('a', 1));
    }

    private static void howMany(Checks c) {
        c.sentence("how many it has");
        LayoutFront x = new LayoutFront();
        int has = 0;
        for (int n = 1; n <= 8; n++) {
            has += n;
            c.due("write of " + n, has, x.write(EIGHT_A, n));
        }
        x.erase();
        c.due("behind an erase", 3, x.write(EIGHT_A, 3));
        Checks.answerOf(() -> x.read());
        c.due("behind a read", 4, x.write(EIGHT_A, 1));
    }

    private static void wrongNumber(Checks c) {
        c.sentence("IllegalArgumentException, when n is not 1 .. 8");
        LayoutFront x = Checks.with("", "a");
        int[] wrong = {0, -1, 9, -8, 16, 64, 256, 257, 1 << 16 | 1, Integer.MIN_VALUE, Integer.MIN_VALUE + 1, Integer.MAX_VALUE};
        for (int n : wrong) {
            c.dueThrow("n is " + n, Checks.ARGUMENT, () -> x.write(EIGHT_A, n));
        }
        c.due("nothing came", 1, x.erase());
        c.dueThrow("n is 0, of an empty text", Checks.ARGUMENT, () -> x.write(EIGHT_A, 0));
        c.due("1", 1, x.write(EIGHT_A, 1));
        c.due("8", 9, x.write(EIGHT_A, 8));
    }

    private static void wrongCharacter(Checks c) {
        c.sentence("or one of them is no character");
        for (int b = 0; b < 256; b++) {
            boolean fine = b == 10 || b >= 32 && b <= 126;
            for (int n = 1; n <= 8; n++) {
                for (int at = 0; at < 8; at++) {
                    oneByte(c, b, n, at, fine || at >= n);
                }
            }
        }
    }

    private static void oneByte(Checks c, int b, int n, int at, boolean fine) {
        LayoutFront x = new LayoutFront();
        long eight = EIGHT_A & ~(255L << 8 * at) | (long) b << 8 * at;
        c.dueThrow("byte " + b + " at " + at + " of " + n, fine ? "" + n : Checks.ARGUMENT, () -> x.write(eight, n));
        c.due("text behind it", fine ? n : 0, x.erase());
    }

    private static void tooMany(Checks c) {
        c.sentence("IllegalStateException, when there would be more than 240");
        for (int has = 232; has <= 240; has++) {
            for (int n = 1; n <= 8; n++) {
                LayoutFront x = Checks.with("", "a".repeat(has));
                int size = n;
                boolean fine = has + n <= 240;
                c.dueThrow(n + " behind " + has, fine ? "" + (has + n) : Checks.STATE, () -> x.write(EIGHT_A, size));
                c.due("text behind it", fine ? has + n : has, x.erase());
            }
        }
        LayoutFront x = Checks.with("", "a".repeat(239));
        c.dueThrow("2 behind 239", Checks.STATE, () -> x.write(EIGHT_A, 2));
        c.due("1 has room still", 240, x.write(EIGHT_A, 1));
        c.dueThrow("1 behind 240", Checks.STATE, () -> x.write(EIGHT_A, 1));
        c.due("all is there", 240, x.erase());
        c.due("and gone", 8, x.write(EIGHT_A, 8));
    }

    private static void argumentsFirst(Checks c) {
        c.sentence("a wrong argument, and a text that is full");
        LayoutFront x = Checks.with("", "a".repeat(240));
        c.dueThrow("no character", Checks.ARGUMENT, () -> x.write(9, 1));
        c.dueThrow("n is 9", Checks.ARGUMENT, () -> x.write(EIGHT_A, 9));
        c.dueThrow("n is 0", Checks.ARGUMENT, () -> x.write(EIGHT_A, 0));
        c.due("all is there", 240, x.erase());
    }
}
