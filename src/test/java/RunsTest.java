import java.util.Random;

/**
 * All promises on long runs of calls on one object, made by chance from one seed, against Model:
 * texts one behind the other, fixities set between them, refused calls, and reads that threw
 * before reads that did not.
 */
public final class RunsTest {
    private static final int RUNS = 500;
    private static final int CALLS = 512;
    private static final String[] NAMES = {
        "+", "-", "*", "==", "<>", "$", "f", "g", "+", "-", "==", "", "h", "=", "do", "-->", "abcdefgh", "x", "y",
    };

    private final Checks c;
    private final Random r;
    private final LayoutFront front = new LayoutFront();
    private final Model model = new Model();
    private final StringBuilder told = new StringBuilder();
    private int calls;
    private boolean latestThrew;

    private static int fineBehindThrown;
    private static int thrownBehindFine;

    private RunsTest(Checks c, Random r) {
        this.c = c;
        this.r = r;
    }

    public static void main(String[] args) {
        Checks c = new Checks();
        Random r = new Random(8);
        for (int i = 0; i < RUNS; i++) {
            new RunsTest(c, r).run();
        }
        c.due("enough reads that did not throw behind ones that did", true, fineBehindThrown > 1000);
        c.due("enough reads that threw behind ones that did not", true, thrownBehindFine > 1000);
        c.end();
    }

    private void run() {
        while (calls < CALLS) {
            setFixities();
            if (r.nextInt(5) > 0) {
                both("erase()", front::erase, model::erase);
            }
            writeText(Texts.some(r, r.nextInt(600)));
            if (r.nextInt(12) > 0) {
                read();
            }
            look();
        }
    }

    /** The object's answer must be the model's; what later calls than the 512th answer is free. */
    private String both(String call, Checks.Call got, Checks.Call want) {
        if (calls == CALLS) {
            return "";
        }
        calls++;
        told.append(call).append(' ');
        String answer = Checks.answerOf(got);
        c.due(told.toString(), Checks.answerOf(want), answer);
        return answer;
    }

    private void setFixities() {
        int most = r.nextInt(4) == 0 ? 0 : r.nextInt(6);
        for (int i = 0; i < most; i++) {
            boolean odd = r.nextInt(10) == 0;
            long name = r.nextInt(30) == 0 ? r.nextLong() : Checks.packed(NAMES[r.nextInt(NAMES.length)]);
            int side = odd ? r.nextInt(6) - 1 : r.nextInt(8) % 3;
            int level = odd ? r.nextInt(12) - 1 : 3 + r.nextInt(6);
            both("fixity(" + name + ", " + side + ", " + level + ")",
                    () -> front.fixity(name, side, level), () -> model.fixity(name, side, level));
        }
    }

    private void writeText(String text) {
        int at = 0;
        while (at < text.length()) {
            int size = Math.min(text.length() - at, r.nextInt(4) == 0 ? 1 + r.nextInt(8) : 8);
            // What stands above the n lowest bytes is anything.
            write(Checks.packed(text.substring(at, at + size)) | (size == 8 ? 0 : r.nextLong() << 8 * size), size);
            at += size;
            if (r.nextInt(40) == 0) {
                write(r.nextLong(), r.nextInt(11) - 1);
            }
        }
    }

    private void write(long eight, int n) {
        both("write(" + eight + ", " + n + ")", () -> front.write(eight, n), () -> model.write(eight, n));
    }

    private void read() {
        String answer = both("read()", front::read, model::read);
        if (answer.isEmpty()) {
            return;
        }
        boolean threw = answer.startsWith("Illegal");
        fineBehindThrown += latestThrew && !threw ? 1 : 0;
        thrownBehindFine += threw && !latestThrew ? 1 : 0;
        latestThrew = threw;
    }

    private void look() {
        both("place()", front::place, model::place);
        int first = r.nextInt(12) - 1;
        int step = 1 + r.nextInt(40);
        for (int k = 0; k < 12; k++) {
            int i = first + k * step;
            both("kind(" + i + ")", () -> front.kind(i), () -> model.kind(i));
            both("token(" + i + ")", () -> front.token(i), () -> model.token(i));
        }
        for (int k = 0; k < 6; k++) {
            int what = k == 5 ? r.nextInt(9) - 2 : k;
            both("count(" + what + ")", () -> front.count(what), () -> model.count(what));
        }
    }
}
