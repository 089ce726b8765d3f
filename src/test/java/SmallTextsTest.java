import java.util.HashMap;
import java.util.Map;

/** Promises 5, 6 and 9 on all texts of few pieces, against Reference. */
public final class SmallTextsTest {
    private static final String[] CHARACTERS = {"a", "1", "'", "-", "{", "}", ">", " ", "\n"};
    private static final String[] BLOCKS = {"a", "let ", "do ", "in ", "{", "}", "(", ")", ",", ";", "\n", "\n "};
    private static final String[] BRANCHES = {"if ", "then ", "else ", "case ", "of ", "let{} ", "do ", "a ", "\n"};
    private static final String[] ROWS = {"a ", "- ", "+ ", "== ", "<> ", "`f` ", "` ", "(", ")", "= "};
    private static final String FIXITIES = "+ 0 6, - 0 6, == 2 4, <> 1 6, f 0 5";
    private static final Map<String, int[]> KNOWN = known();

    public static void main(String[] args) {
        Checks c = new Checks();
        all(c, CHARACTERS, 5);
        all(c, BLOCKS, 4);
        all(c, BRANCHES, 5);
        all(c, ROWS, 5);
        c.end();
    }

    private static void all(Checks c, String[] pieces, int most) {
        int number = 1;
        for (int size = 0; size <= most; size++) {
            for (int i = 0; i < number; i++) {
                compare(c, text(pieces, size, i));
            }
            number *= pieces.length;
        }
    }

    private static String text(String[] pieces, int size, int number) {
        StringBuilder s = new StringBuilder();
        int rest = number;
        for (int i = 0; i < size; i++) {
            s.append(pieces[rest % pieces.length]);
            rest /= pieces.length;
        }
        return s.toString();
    }

    private static Map<String, int[]> known() {
        Map<String, int[]> fixities = new HashMap<>();
        for (String one : FIXITIES.split(", ")) {
            String[] parts = one.split(" ");
            fixities.put(parts[0], new int[] {Integer.parseInt(parts[1]), Integer.parseInt(parts[2])});
        }
        return fixities;
    }

    private static void compare(Checks c, String text) {
        LayoutFront x = Checks.with(FIXITIES, text);
        Reference due = new Reference(text, KNOWN);
        String got = Checks.readAndShown(x);
        c.due("read of\n" + text, due.shown, got);
        for (int what = 0; !got.startsWith("Illegal") && what < 5; what++) {
            c.due("count(" + what + ") of\n" + text, due.counts[what], x.count(what));
        }
    }
}
