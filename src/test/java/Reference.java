import java.util.ArrayDeque;
import java.util.ArrayList;
import java.util.Deque;
import java.util.List;
import java.util.Map;
import java.util.Set;
import java.util.regex.Matcher;
import java.util.regex.Pattern;

/**
 * The document once more, written another way (patterns, lists, and the recursive resolver of the
 * Haskell report), to hold against the class on texts that no one has written by hand.
 */
final class Reference {
    private static final Set<String> WORDS =
            Set.of("let", "where", "do", "of", "in", "if", "then", "else", "case");
    private static final Set<String> RESERVED =
            Set.of("=", "->", "<-", "|", "::", "=>", "\\", "@", "~", "..");
    private static final Set<String> BEGINNERS = Set.of("let", "where", "do", "of");
    private static final Pattern LEXEME = Pattern.compile(
            "([A-Za-z_][A-Za-z0-9_']*)|([0-9]+)|([!#$%&*+./<=>?@\\\\^|\\-~:]+)|([()\\[\\]{},;`])");

    /** What is due: the tokens as Checks.shown tells them and the counts, or what is thrown. */
    String shown;
    int[] counts = new int[5];

    private record Lexeme(int kind, String text, int place, int column, boolean first) { }

    private record Fixity(int side, int level) { }

    private static final class Wrong extends Exception {
        private static final long serialVersionUID = 1;

        Wrong(String exception, int place) {
            super(exception + " at " + place);
        }
    }

    private static final class Conflict extends Exception {
        private static final long serialVersionUID = 1;
    }

    private final String text;
    private final Map<String, int[]> fixities;
    private final List<Lexeme> lexemes = new ArrayList<>();
    private final List<String> laid = new ArrayList<>();
    private final Deque<String> open = new ArrayDeque<>();

    Reference(String text, Map<String, int[]> fixities) {
        this.text = text;
        this.fixities = fixities;
        try {
            cut();
            lay();
            shown = String.join(" ", together(laid));
        } catch (Wrong e) {
            shown = e.getMessage();
        }
    }

    private void cut() throws Wrong {
        int last = -1;
        int at = 0;
        while (at < text.length()) {
            if (text.startsWith("{-", at)) {
                at = behindComment(at);
                continue;
            }
            if (" \n".indexOf(text.charAt(at)) >= 0) {
                at++;
                continue;
            }
            Matcher m = LEXEME.matcher(text).region(at, text.length());
            if (!m.lookingAt()) {
                throw new Wrong(Checks.ARGUMENT, at);
            }
            String s = m.group();
            if (s.matches("--+")) {
                int end = text.indexOf('\n', at);
                at = end < 0 ? text.length() : end;
                continue;
            }
            int kind = m.group(1) != null ? 0 : m.group(2) != null ? 1 : m.group(3) != null ? 2 : 3;
            if (s.length() > (kind == 1 ? 9 : 7)) {
                throw new Wrong(Checks.ARGUMENT, at);
            }
            if (lexemes.size() == 90) {
                throw new Wrong(Checks.STATE, at);
            }
            int line = text.lastIndexOf('\n', at);
            lexemes.add(new Lexeme(kind, kind == 1 ? "" + Long.parseLong(s) : s, at, at - line, last <= line));
            last = at;
            at += s.length();
        }
        counts[0] = lexemes.size();
    }

    private int behindComment(int at) throws Wrong {
        int i = at + 2;
        while (!text.startsWith("-}", i)) {
            if (i >= text.length()) {
                throw new Wrong(Checks.ARGUMENT, at);
            }
            try {
                i = text.startsWith("{-", i) ? behindComment(i) : i + 1;
            } catch (Wrong inner) {
                throw new Wrong(Checks.ARGUMENT, at);
            }
        }
        return i + 2;
    }

    private static boolean isBlock(String thing) {
        return thing != null && Character.isDigit(thing.charAt(0));
    }

    private static boolean isLaidBlock(String thing) {
        return isBlock(thing) && !thing.equals("0");
    }

    private String belowLets() {
        return open.stream().filter(t -> !t.equals("let")).findFirst().orElse(null);
    }

    private void dropLets() {
        while ("let".equals(open.peek())) {
            open.pop();
        }
    }

    private void push(String thing) {
        open.push(thing);
        counts[4] = Math.max(counts[4], open.size());
    }

    private void lay() throws Wrong {
        boolean begins = true;
        for (Lexeme l : lexemes) {
            if (begins && !l.text.equals("{")) {
                begin(l.column);
            } else if (l.first && l != lexemes.get(0)) {
                mark(l.column);
            }
            if (!fits(l.text)) {
                throw new Wrong(Checks.ARGUMENT, l.place);
            }
            laid.add(l.text);
            begins = BEGINNERS.contains(l.text);
        }
        if (begins) {
            begin(0);
        }
        close(true);
        if (!open.isEmpty()) {
            throw new Wrong(Checks.ARGUMENT, text.length());
        }
    }

    private void begin(int column) {
        counts[1]++;
        laid.add("<{");
        int latest = open.stream().filter(Reference::isBlock).mapToInt(Integer::parseInt).findFirst().orElse(0);
        if (column > latest) {
            push("" + column);
            return;
        }
        laid.add("<}");
        if (column > 0) {
            mark(column);
        }
    }

    private void mark(int column) {
        while (isBlock(belowLets()) && Integer.parseInt(belowLets()) > column) {
            dropLets();
            laid.add("<}");
            open.pop();
        }
        if (("" + column).equals(belowLets())) {
            dropLets();
            laid.add("<;");
        }
    }

    private void close(boolean lets) {
        while (isLaidBlock(open.peek()) || lets && "let".equals(open.peek())) {
            if (isBlock(open.pop())) {
                laid.add("<}");
            }
        }
    }

    private boolean closeTo(String thing) {
        close(!thing.equals("let"));
        return thing.equals(open.peek()) && open.pop() != null;
    }

    private boolean fits(String lexeme) {
        switch (lexeme) {
            case "(", "[", "if", "case", "let" -> push(lexeme);
            case "{" -> push("0");
            case ";" -> dropLets();
            case "," -> {
                String below = open.stream().filter(t -> !t.equals("let") && !isLaidBlock(t)).findFirst().orElse("");
                if (below.equals("(") || below.equals("[")) {
                    close(true);
                }
            }
            case "}" -> {
                dropLets();
                return "0".equals(open.peek()) && open.pop() != null;
            }
            case "then" -> {
                boolean fits = closeTo("if");
                push("then");
                return fits;
            }
            case "else" -> {
                return closeTo("then");
            }
            case "of" -> {
                return closeTo("case");
            }
            case "in" -> {
                return closeTo("let");
            }
            case ")" -> {
                return closeTo("(");
            }
            case "]" -> {
                return closeTo("[");
            }
            default -> {
                return true;
            }
        }
        return true;
    }

    /** The tokens of one level, each bracket with its contents made one token first. */
    private List<String> together(List<String> tokens) {
        List<String> level = new ArrayList<>();
        for (int i = 0; i < tokens.size(); i++) {
            String t = tokens.get(i);
            if (t.equals("(") || t.equals("[")) {
                int end = closer(tokens, i);
                level.add(t + " " + String.join(" ", together(tokens.subList(i + 1, end))) + " " + tokens.get(end));
                i = end;
            } else {
                level.add(t);
            }
        }
        level.replaceAll(t -> t.replaceAll(" +", " "));
        return rows(level);
    }

    private static int closer(List<String> tokens, int from) {
        int depth = 0;
        for (int i = from; ; i++) {
            depth += "([".contains(tokens.get(i)) ? 1 : ")]".contains(tokens.get(i)) ? -1 : 0;
            if (depth == 0) {
                return i;
            }
        }
    }

    private List<String> rows(List<String> level) {
        List<String> all = new ArrayList<>();
        List<String> row = new ArrayList<>();
        for (int i = 0; i < level.size(); i++) {
            String t = level.get(i);
            if (isOperand(t) || isOperator(t)) {
                row.add(t);
            } else if (i + 2 < level.size() && t.equals("`") && isName(level.get(i + 1)) && level.get(i + 2).equals("`")) {
                row.add("` " + level.get(i + 1) + " `");
                i += 2;
            } else {
                all.addAll(row(row));
                all.add(t);
                row.clear();
            }
        }
        all.addAll(row(row));
        return all;
    }

    private static boolean isName(String t) {
        return t.matches("[A-Za-z_][^ ]*") && !WORDS.contains(t);
    }

    private static boolean isOperand(String t) {
        return isName(t) || t.matches("[0-9]+") || t.length() > 1 && "([".indexOf(t.charAt(0)) >= 0;
    }

    private static boolean isOperator(String t) {
        return !RESERVED.contains(t) && !t.matches("<[{};]") && t.matches("[!#$%&*+./<=>?@\\\\^|\\-~:]+");
    }

    private static boolean isOperation(String t) {
        return isOperator(t) || t.startsWith("` ");
    }

    private List<String> row(List<String> row) {
        List<String> items = new ArrayList<>();
        for (String t : row) {
            int last = items.size() - 1;
            if (last >= 0 && !isOperation(t) && !isOperation(items.get(last))) {
                items.set(last, items.get(last) + " " + t);
            } else {
                items.add(t);
            }
        }
        int operations = 0;
        for (int i = 0; i < items.size(); i++) {
            if (isOperation(items.get(i))) {
                operations++;
                boolean bare = i == 0 || isOperation(items.get(i - 1));
                if (i == items.size() - 1 || bare && !items.get(i).equals("-")) {
                    return new ArrayList<>(row);
                }
            }
        }
        if (operations == 0) {
            return new ArrayList<>(row);
        }
        try {
            at = 0;
            String resolved = behind(items, new Fixity(2, -1));
            counts[2]++;
            return List.of(resolved);
        } catch (Conflict e) {
            counts[3]++;
            return new ArrayList<>(row);
        }
    }

    private int at;

    private String behind(List<String> items, Fixity waits) throws Conflict {
        String t = items.get(at++);
        if (!isOperation(t)) {
            return onward(items, waits, t);
        }
        if (waits.level >= 6) {
            throw new Conflict();
        }
        return onward(items, waits, ".( - " + behind(items, new Fixity(0, 6)) + " .)");
    }

    private String onward(List<String> items, Fixity waits, String left) throws Conflict {
        String all = left;
        while (at < items.size()) {
            int[] f = fixities.getOrDefault(items.get(at).replaceAll("[` ]", ""), new int[] {0, 9});
            Fixity comes = new Fixity(f[0], f[1]);
            if (waits.level == comes.level && (waits.side != comes.side || waits.side == 2)) {
                throw new Conflict();
            }
            if (waits.level > comes.level || waits.level == comes.level && waits.side == 0) {
                return all;
            }
            String operation = items.get(at++);
            all = ".( " + all + " " + operation + " " + behind(items, comes) + " .)";
        }
        return all;
    }
}
