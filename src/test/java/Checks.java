import java.util.ArrayList;
import java.util.List;

/** What the tests share: one object under test, and what was due of it and did not come. */
final class Checks {
    static final String ARGUMENT = "IllegalArgumentException";
    static final String STATE = "IllegalStateException";
    static final String INDEX = "IndexOutOfBoundsException";

    interface Call {
        long answer();
    }

    private int wrong;
    private String sentence = "";

    /** The document's own words, or the part of them, that the checks from here on are about. */
    void sentence(String words) {
        sentence = words;
    }

    void due(String what, Object want, Object got) {
        if (!want.equals(got)) {
            wrong++;
            String of = sentence.isEmpty() ? "" : "[" + sentence + "]\n  ";
            System.out.println(of + what + "\n  due: " + want + "\n  got: " + got);
        }
    }

    void due(String what, long want, long got) {
        due(what, Long.valueOf(want), Long.valueOf(got));
    }

    void dueThrow(String what, String want, Call call) {
        due(what, want, answerOf(call));
    }

    static String answerOf(Call call) {
        try {
            return String.valueOf(call.answer());
        } catch (RuntimeException e) {
            return e.getClass().getSimpleName();
        }
    }

    void end() {
        if (wrong > 0) {
            System.exit(1);
        }
    }

    /** Characters packed as the document asks, the first one the lowest. */
    static long packed(String s) {
        long all = 0;
        for (int i = s.length() - 1; i >= 0; i--) {
            all = all << 8 | s.charAt(i);
        }
        return all;
    }

    static String unpacked(long packed) {
        StringBuilder s = new StringBuilder();
        for (long rest = packed; rest != 0; rest >>>= 8) {
            s.append((char) (rest & 255));
        }
        return s.toString();
    }

    static void write(LayoutFront x, String text) {
        for (int i = 0; i < text.length(); i += 8) {
            String part = text.substring(i, Math.min(text.length(), i + 8));
            x.write(packed(part), part.length());
        }
    }

    static void rewrite(LayoutFront x, String text) {
        x.erase();
        write(x, text);
    }

    /** Operations with side and level, as in "+ 0 6, div 1 7". */
    static void setFixities(LayoutFront x, String all) {
        for (String one : all.isEmpty() ? new String[0] : all.split(", ")) {
            String[] parts = one.split(" ");
            x.fixity(packed(parts[0]), Integer.parseInt(parts[1]), Integer.parseInt(parts[2]));
        }
    }

    static LayoutFront with(String fixities, String text) {
        LayoutFront x = new LayoutFront();
        setFixities(x, fixities);
        write(x, text);
        return x;
    }

    /**
     * The tokens of a read, with blanks between them: those of the text as they are, those put in
     * for blocks as in <{ and for operations as in .( (no text has either beside a blank).
     */
    static String shown(LayoutFront x, int size) {
        List<String> all = new ArrayList<>();
        for (int i = 0; i < size; i++) {
            long token = x.token(i);
            switch (x.kind(i)) {
                case 1:
                    all.add(String.valueOf(token));
                    break;
                case 4:
                    all.add("<" + unpacked(token));
                    break;
                case 5:
                    all.add("." + unpacked(token));
                    break;
                default:
                    all.add(unpacked(token));
                    break;
            }
        }
        return String.join(" ", all);
    }

    static String readAndShown(LayoutFront x) {
        try {
            return shown(x, x.read());
        } catch (IllegalArgumentException | IllegalStateException e) {
            return e.getClass().getSimpleName() + " at " + x.place();
        }
    }

    void dueRead(String fixities, String text, String want) {
        due("read of\n" + text, want, readAndShown(with(fixities, text)));
    }

    void dueRead(String text, String want) {
        dueRead("", text, want);
    }

    void dueWrong(String text, int place) {
        dueRead(text, ARGUMENT + " at " + place);
    }

    void dueTooMany(String text, int place) {
        dueRead(text, STATE + " at " + place);
    }

    /** How many rows were put together, and how many are in conflict. */
    void dueRows(String fixities, String text, int together, int inConflict) {
        LayoutFront x = with(fixities, text);
        x.read();
        due("rows put together in\n" + text, together, x.count(2));
        due("rows in conflict in\n" + text, inConflict, x.count(3));
    }

    /** All that can be asked without a change: tokens, place and counts. */
    static String seen(LayoutFront x) {
        int size = 0;
        while (!answerOf(tokenAt(x, size)).equals(INDEX)) {
            size++;
        }
        StringBuilder s = new StringBuilder(shown(x, size)).append(" | place ").append(x.place()).append(" | counts");
        for (int what = 0; what < 5; what++) {
            s.append(' ').append(x.count(what));
        }
        return s.toString();
    }

    private static Call tokenAt(LayoutFront x, int i) {
        return () -> x.token(i);
    }
}
