import java.util.HashMap;
import java.util.Map;
import java.util.Random;

/** Promises 5 to 9 on many texts put together by chance (always the same ones), against Reference. */
public final class ReferenceTest {
    public static void main(String[] args) {
        Checks c = new Checks();
        Random r = new Random(20261115);
        int read = 0;
        for (int i = 0; i < 24000; i++) {
            read += compare(c, r, Texts.some(r, i)) ? 1 : 0;
        }
        c.due("enough texts are not wrong", true, read > 6000);
        c.end();
    }

    private static boolean compare(Checks c, Random r, String text) {
        LayoutFront x = new LayoutFront();
        Map<String, int[]> fixities = new HashMap<>();
        for (String operation : Texts.OPERATIONS) {
            if (r.nextInt(5) > 0) {
                int[] f = {r.nextInt(8) % 3, 3 + r.nextInt(6)};
                fixities.put(operation, f);
                x.fixity(Checks.packed(operation), f[0], f[1]);
            }
        }
        Checks.write(x, text);
        Reference due = new Reference(text, fixities);
        String got = Checks.readAndShown(x);
        c.due("read of\n" + text, due.shown, got);
        boolean fine = got.startsWith("<") || got.startsWith("{");
        for (int what = 0; fine && what < 5; what++) {
            c.due("count(" + what + ") of\n" + text, due.counts[what], x.count(what));
        }
        return fine;
    }
}
