/** Promise 2: write. */
public final class WriteTest {
    private static final long EIGHT_A = Checks.packed("aaaaaaaa");

    public static void main(String[] args) {
        Checks c = new Checks();
        ordinary(c);
        characters(c);
        wrongArguments(c);
        tooMany(c);
        c.end();
    }

    private static void ordinary(Checks c) {
        LayoutFront x = new LayoutFront();
        c.due("eight", 8, x.write(Checks.packed("abc (de)"), 8));
        c.due("one", 9, x.write(Checks.packed("fgh"), 1));
        c.due("two", 11, x.write(Checks.packed("\n-"), 2));
        c.due("lowest first", "<{ abc ( de ) f <; - <}", Checks.readAndShown(x));

        LayoutFront y = new LayoutFront();
        c.due("bytes above the n lowest are not looked at", 2, y.write(-1L << 16 | Checks.packed("ab"), 2));
        c.due("nor part of the text", "<{ ab <}", Checks.readAndShown(y));
    }

    private static void characters(Checks c) {
        for (int b = 0; b < 256; b++) {
            boolean fine = b == 10 || b >= 32 && b <= 126;
            for (int n = 1; n <= 8; n++) {
                LayoutFront x = new LayoutFront();
                int shift = 8 * (n - 1);
                long eight = EIGHT_A & ~(255L << shift) | (long) b << shift;
                int size = n;
                c.dueThrow("byte " + b + " as the last of " + n, fine ? "" + n : Checks.ARGUMENT, () -> x.write(eight, size));
                c.due("text behind it", fine ? n : 0, x.erase());
            }
        }
    }

    private static void wrongArguments(Checks c) {
        LayoutFront x = Checks.with("", "a");
        for (int n : new int[] {0, -1, 9, 16, 257, Integer.MIN_VALUE, Integer.MAX_VALUE}) {
            c.dueThrow("n is " + n, Checks.ARGUMENT, () -> x.write(EIGHT_A, n));
        }
        c.dueThrow("the first is none", Checks.ARGUMENT, () -> x.write(EIGHT_A & ~255L, 8));
        c.due("nothing came", 1, x.erase());
    }

    private static void tooMany(Checks c) {
        LayoutFront x = new LayoutFront();
        for (int i = 1; i <= 29; i++) {
            c.due("write", 8 * i, x.write(EIGHT_A, 8));
        }
        c.due("to 239", 239, x.write(EIGHT_A, 7));
        c.dueThrow("241", Checks.STATE, () -> x.write(EIGHT_A, 2));
        c.due("to 240", 240, x.write(EIGHT_A, 1));
        c.dueThrow("241 again", Checks.STATE, () -> x.write(EIGHT_A, 1));
        c.dueThrow("wrong arguments are told first", Checks.ARGUMENT, () -> x.write(9, 1));
        c.dueThrow("a wrong n is told first", Checks.ARGUMENT, () -> x.write(EIGHT_A, 9));
        c.due("all is there", 240, x.erase());
        c.due("and gone", 8, x.write(EIGHT_A, 8));
    }
}
