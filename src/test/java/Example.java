/** Reads two texts and prints their tokens. README.md shows this file and what it prints. */
public final class Example {
    public static void main(String[] args) {
        LayoutFront front = new LayoutFront();
        front.fixity(packed("+"), 0, 6);  // side 0 left, 1 right, 2 none; level 0 .. 9
        front.fixity(packed("*"), 0, 7);
        front.fixity(packed("=="), 2, 4);

        print(front, "f x = do\n  let y = x * 2 + 1\n  y == - x");
        print(front, "do (a + b\n   c");
    }

    private static void print(LayoutFront front, String text) {
        front.erase();
        for (int i = 0; i < text.length(); i += 8) {
            String eight = text.substring(i, Math.min(i + 8, text.length()));
            front.write(packed(eight), eight.length());
        }
        try {
            int tokens = front.read();
            for (int i = 0; i < tokens; i++) {
                boolean number = front.kind(i) == 1;
                System.out.print((number ? "" + front.token(i) : unpacked(front.token(i))) + " ");
            }
            System.out.println("| " + front.count(1) + " blocks, " + front.count(2) + " rows put together");
        } catch (IllegalArgumentException e) {
            System.out.println("wrong at " + front.place());
        } catch (IllegalStateException e) {
            System.out.println("more than 90 lexemes; the 91st is at " + front.place());
        }
    }

    private static long packed(String s) {
        long all = 0;
        for (int i = s.length() - 1; i >= 0; i--) {
            all = all << 8 | s.charAt(i);
        }
        return all;
    }

    private static String unpacked(long all) {
        StringBuilder s = new StringBuilder();
        for (long rest = all; rest != 0; rest >>>= 8) {
            s.append((char) (rest & 255));
        }
        return s.toString();
    }
}
