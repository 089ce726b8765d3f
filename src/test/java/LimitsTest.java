/** Promise 5 on the texts that need the most room: nothing is cut off, nothing else is thrown. */
public final class LimitsTest {
    public static void main(String[] args) {
        Checks c = new Checks();
        c.dueRead("do\n".repeat(80), "<{" + " do <{ <} <;".repeat(79) + " do <{ <} <}");
        c.dueRead("do ".repeat(80), "<{" + " do <{".repeat(80) + " <}".repeat(81));
        c.dueRead("let ".repeat(60), "<{" + " let <{".repeat(60) + " <}".repeat(61));
        c.dueRead("(".repeat(45) + ")".repeat(45), "<{" + " (".repeat(45) + " )".repeat(45) + " <}");
        c.dueRead("a+".repeat(44) + "a", "<{" + " .(".repeat(44) + " a" + " + a .)".repeat(44) + " <}");
        c.dueRead("+ 1 3", "a+".repeat(44) + "a", "<{" + " .( a +".repeat(44) + " a" + " .)".repeat(44) + " <}");
        c.dueRead("+ 1 3", "-a+ ".repeat(29) + "a", "<{" + " .( .( - a .) +".repeat(29) + " a" + " .)".repeat(29) + " <}");
        c.dueRead("(-".repeat(22) + "a" + ")".repeat(22), "<{" + " ( .( -".repeat(22) + " a" + " .) )".repeat(22) + " <}");
        c.dueRead("-a,".repeat(30), "<{" + " .( - a .) ,".repeat(30) + " <}");
        c.dueRead("a\n".repeat(90), "<{" + " a <;".repeat(89) + " a <}");
        c.dueRead("{".repeat(45) + "}".repeat(45), "{ ".repeat(45) + "} ".repeat(44) + "}");
        c.dueRead(" ".repeat(239) + "a", "<{ a <}");
        c.dueRead("{-".repeat(60) + "-}".repeat(60), "<{ <}");
        c.dueWrong("{-".repeat(120), 0);
        c.dueWrong("a".repeat(240), 0);
        c.dueRead("-".repeat(240), "<{ <}");
        c.dueRead("\n".repeat(240), "<{ <}");
        c.end();
    }
}
