import java.util.Map;
import java.util.Random;

/** Texts put together by chance from a seed, so that they are always the same ones. */
final class Texts {
    static final String[] OPERATIONS = {"+", "-", "*", "==", "<>", "$", "f", "g"};

    private static final String[] MIXED = {
        "a", "b", "f", "1", "23", "+", "-", "-", "*", "==", "<>", "$", "`f`", "`", "`g`", "=", "->", "..", "|",
        "(", ")", "(", ")", "[", "]", "{", "}", ",", ";", "let", "let", "in", "in", "do", "do", "where", "of", "case",
        "if", "then", "else", "-- c", "{- c -}", "{- \n -}", "{-", "-}", "--", "a'", "\\", "@", "::", "-->", "{--}",
    };
    private static final String[] BLOCKS = {
        "a", "b", "let", "in", "do", "where", "case a of", "case", "of", "if a then b else", "if", "then", "else",
        "(", ")", "[", "]", ",", ";", "{", "}", "a = b", "let {a}", "do {", "(let a,", "{- \n -}",
    };
    private static final String[] ROWS = {
        "a", "b", "1", "+", "-", "-", "*", "==", "<>", "$", "`f`", "`g`", "(", ")", "[", "]", ",", "=", "f x", "- a",
        "a + b", "a", "(a)", "`", "a == - b", "- a * b",
    };

    private Texts() { }

    /** Of at most 240 characters; the number says which pieces it is made of. */
    static String some(Random r, int number) {
        String[] pieces = number % 3 == 0 ? MIXED : number % 3 == 1 ? BLOCKS : ROWS;
        return number % 50 == 0 ? noise(r) : repaired(r, put(r, pieces));
    }

    private static String put(Random r, String[] pieces) {
        StringBuilder s = new StringBuilder();
        int most = 1 + r.nextInt(r.nextInt(8) == 0 ? 120 : 24);
        boolean lines = r.nextInt(4) > 0;
        for (int i = 0; i < most; i++) {
            s.append(pieces[r.nextInt(pieces.length)]);
            if (lines && r.nextInt(4) == 0) {
                s.append("\n").append(" ".repeat(r.nextInt(r.nextInt(3) == 0 ? 20 : 6)));
            } else {
                s.append(r.nextInt(12) == 0 ? "" : " ");
            }
        }
        return s.substring(0, Math.min(240, s.length()));
    }

    /** Chance seldom closes what it opens, so that most texts lose what is wrong in them. */
    private static String repaired(Random r, String text) {
        String s = text;
        int tries = r.nextInt(40);
        for (int i = 0; i < tries; i++) {
            String shown = new Reference(s, Map.of()).shown;
            if (!shown.startsWith(Checks.ARGUMENT)) {
                break;
            }
            int place = Integer.parseInt(shown.replaceAll(".* at ", ""));
            if (place < s.length()) {
                s = s.substring(0, place) + s.substring(place).replaceFirst("(?s)^([A-Za-z_0-9']+|.)", "");
            } else {
                String[] ends = {")", "]", " }", " then", " else", " of"};
                s = s.length() > 230 ? s.substring(0, 200) : s + ends[r.nextInt(ends.length)];
            }
        }
        return s;
    }

    private static String noise(Random r) {
        StringBuilder s = new StringBuilder();
        int size = r.nextInt(241);
        for (int i = 0; i < size; i++) {
            int b = 31 + r.nextInt(96);
            s.append(b == 31 || r.nextInt(10) == 0 ? '\n' : b == '"' || b == '\'' ? ' ' : (char) b);
        }
        return s.toString();
    }
}
