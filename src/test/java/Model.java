import java.util.HashMap;
import java.util.List;
import java.util.Map;

/** The whole object once more: what each call of a run is due to answer. Reference reads its texts. */
final class Model {
    private String text = "";
    private final Map<String, int[]> fixities = new HashMap<>();
    private List<String> tokens = List.of();
    private int place = LayoutFront.NONE;
    private int[] counts = new int[5];

    int write(long eight, int n) {
        if (n < 1 || n > 8) {
            throw new IllegalArgumentException();
        }
        StringBuilder more = new StringBuilder();
        for (int i = 0; i < n; i++) {
            more.append((char) (eight >> 8 * i & 255));
        }
        if (!more.toString().matches("[ -~\n]*")) {
            throw new IllegalArgumentException();
        }
        if (text.length() + n > 240) {
            throw new IllegalStateException();
        }
        text += more;
        return text.length();
    }

    int erase() {
        int had = text.length();
        text = "";
        return had;
    }

    int fixity(long name, int side, int level) {
        if (side < 0 || side > 2 || level < 0 || level > 9) {
            throw new IllegalArgumentException();
        }
        String key = Checks.unpacked(name);
        if (fixities.size() == 12 && !fixities.containsKey(key)) {
            throw new IllegalStateException();
        }
        fixities.put(key, new int[] {side, level});
        return fixities.size();
    }

    int read() {
        Reference due = new Reference(text, fixities);
        if (due.shown.startsWith("Illegal")) {
            tokens = List.of();
            place = Integer.parseInt(due.shown.replaceAll(".* at ", ""));
            if (due.shown.startsWith(Checks.STATE)) {
                throw new IllegalStateException();
            }
            throw new IllegalArgumentException();
        }
        tokens = List.of(due.shown.split(" "));
        place = LayoutFront.NONE;
        counts = due.counts;
        return tokens.size();
    }

    int place() {
        return place;
    }

    int kind(int i) {
        String t = shown(i);
        if (t.matches("<[{};]")) {
            return 4;
        }
        if (t.matches("\\.[()]")) {
            return 5;
        }
        if (t.matches("[A-Za-z_].*")) {
            return 0;
        }
        return t.matches("[0-9]+") ? 1 : t.matches("[()\\[\\]{},;`]") ? 3 : 2;
    }

    long token(int i) {
        String t = shown(i);
        int kind = kind(i);
        return kind == 1 ? Long.parseLong(t) : Checks.packed(kind >= 4 ? t.substring(1) : t);
    }

    private String shown(int i) {
        if (i < 0 || i >= tokens.size()) {
            throw new IndexOutOfBoundsException();
        }
        return tokens.get(i);
    }

    int count(int what) {
        if (what < 0 || what > 4) {
            throw new IndexOutOfBoundsException();
        }
        return counts[what];
    }
}
