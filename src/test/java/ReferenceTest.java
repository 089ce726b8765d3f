import java.util.HashMap;
import java.util.Map;
import java.util.Random;

/** Promises 5 to 9 on many texts put together by chance (always the same ones), against Reference. */
public final class ReferenceTest {
    private static final String[] MIXED = {
        "a", "b", "f", "1", "23", "+", "-", "-", "*", "==", "<>", "$", "`f`", "`", "`g`", "=", "->", "..", "|",
        "(", ")", "(", ")", "[", "]", "{", "}", ",", ";", "let", "let", "in", "in", "do", "do", "where", "of", "case",
        "if", "then", "else", "-- c", "{- c -}", "{- \n -}", "{-", "-}", "--", "a'", "\\", "@", "::", "-->", "{--}",
    };
    private static final String[] BLOCKS = {
        "a", "b", "let", "in", "do", "where", "case a of", "case", "of", "if a then b else", "if", "then", "else",
        "(", ")", "[", "]", ",", ";", "{", "}", "a = b", "let {a}", "do {", "(let a,", "{- \n -}",
    };
    private static final String[] ROWS = {
        "a", "b", "1", "+", "-", "-", "*", "==", "<>", "$", "`f`", "`g`", "(", ")", "[", "]", ",", "=", "f x", "- a",
        "a + b", "a", "(a)", "`", "a == - b", "- a * b",
    };
    private static final String[] OPERATIONS = {"+", "-", "*", "==", "<>", "$", "f", "g"};

    public static void main(String[] args) {
        Checks c = new Checks();
        Random r = new Random(20261115);
        int read = 0;
        for (int i = 0; i < 24000; i++) {
            String[] pieces = i % 3 == 0 ? MIXED : i % 3 == 1 ? BLOCKS : ROWS;
            String text = i % 50 == 0 ? noise(r) : repaired(r, put(r, pieces));
            read += compare(c, r, text) ? 1 : 0;
        }
        c.due("enough texts are not wrong", true, read > 6000);
        c.end();
    }

    private static String put(Random r, String[] pieces) {
        StringBuilder s = new StringBuilder();
        int most = 1 + r.nextInt(r.nextInt(8) == 0 ? 120 : 24);
        boolean lines = r.nextInt(4) > 0;
        for (int i = 0; i < most; i++) {
            s.append(pieces[r.nextInt(pieces.length)]);
            if (lines && r.nextInt(4) == 0) {
                s.append("\n").append(" ".repeat(r.nextInt(r.nextInt(3) == 0 ? 20 : 6)));
            } else {
                s.append(r.nextInt(12) == 0 ? "" : " ");
            }
        }
        return s.substring(0, Math.min(240, s.length()));
    }

    /** Chance seldom closes what it opens, so that most texts lose what is wrong in them. */
    private static String repaired(Random r, String text) {
        String s = text;
        int tries = r.nextInt(40);
        for (int i = 0; i < tries; i++) {
            String shown = new Reference(s, Map.of()).shown;
            if (!shown.startsWith(Checks.ARGUMENT)) {
                break;
            }
            int place = Integer.parseInt(shown.replaceAll(".* at ", ""));
            if (place < s.length()) {
                s = s.substring(0, place) + s.substring(place).replaceFirst("(?s)^([A-Za-z_0-9']+|.)", "");
            } else {
                String[] ends = {")", "]", " }", " then", " else", " of"};
                s = s.length() > 230 ? s.substring(0, 200) : s + ends[r.nextInt(ends.length)];
            }
        }
        return s;
    }

    private static String noise(Random r) {
        StringBuilder s = new StringBuilder();
        int size = r.nextInt(241);
        for (int i = 0; i < size; i++) {
            int b = 31 + r.nextInt(96);
            s.append(b == 31 || r.nextInt(10) == 0 ? '\n' : b == '"' || b == '\'' ? ' ' : (char) b);
        }
        return s.toString();
    }

    private static boolean compare(Checks c, Random r, String text) {
        LayoutFront x = new LayoutFront();
        Map<String, int[]> fixities = new HashMap<>();
        for (String operation : OPERATIONS) {
            if (r.nextInt(5) > 0) {
                int[] f = {r.nextInt(8) % 3, 3 + r.nextInt(6)};
                fixities.put(operation, f);
                x.fixity(Checks.packed(operation), f[0], f[1]);
            }
        }
        Checks.write(x, text);
        Reference due = new Reference(text, fixities);
        String got = Checks.readAndShown(x);
        c.due("read of\n" + text, due.shown, got);
        boolean fine = got.startsWith("<") || got.startsWith("{");
        for (int what = 0; fine && what < 5; what++) {
            c.due("count(" + what + ") of\n" + text, due.counts[what], x.count(what));
        }
        return fine;
    }
}
