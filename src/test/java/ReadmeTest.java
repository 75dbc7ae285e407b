/** What README.md shows: its example, its two helpers, and a row of its tables each. */
public final class ReadmeTest {
    public static void main(String[] args) {
        example();
        helpers();
        lines();
        answers();
        Check.end();
    }

    private static void example() {
        RootAlgebra x = new RootAlgebra();
        Check.same("feed", x.feed(7, 0x29322832233D61L), 7);
        Check.same("line", x.line(), 0);
        Check.same("write", x.write(0), 10);
        Check.same("out", x.out(0), 0x5D312C302C322D5BL);
        Check.same("its end", x.out(8), 0x3123L);
        Check.same("floor", x.floor(0, 10), 11);
        Check.same("text", text(x), "14142135623");
        Check.same("compare", x.compare(0, 16), 0);
    }

    private static void feed(RootAlgebra x, String line) {
        for (int i = 0; i < line.length(); i += 8) {
            int n = Math.min(8, line.length() - i);
            long v = 0;
            for (int j = 0; j < n; j++) {
                v |= (long) line.charAt(i + j) << (8 * j);
            }
            x.feed(n, v);
        }
    }

    private static String text(RootAlgebra x) {
        StringBuilder b = new StringBuilder();
        int length = x.look(3);
        for (int k = 0; k < length; k += 8) {
            long v = x.out(k);
            for (int j = 0; j < 8 && k + j < length; j++) {
                b.append((char) (v >>> (8 * j) & 0xFF));
            }
        }
        return b.toString();
    }

    private static void helpers() {
        RootAlgebra x = new RootAlgebra();
        feed(x, "a = #2(2) + #3(2)");
        Check.same("line", x.line(), 0);
        x.write(0);
        Check.same("text", text(x), "[-4,-24,12,-4,-6,0,1]#1");
    }

    private static void lines() {
        Check c = new Check();
        c.works("a=7", "[-7,1]#0");
        c.works("000000012", "[-12,1]#0");
        c.works("-(a+1)*2/4-3", "[7,1]#0");
        c.works("#3(a+1)", "[-2,1]#0");
        c.works("@1(-6,1,1)", "[-2,1]#0");
        c.works("a?8", "[1,1]#0");
    }

    private static void answers() {
        String[] lines = {"1+", "a", "46341*46341", "#5(2)*#3(2)", "1/0", "#2(-1)", "@2(-6,1,1)"};
        for (int i = 0; i < lines.length; i++) {
            new Check().fails(lines[i], -1 - i);
        }
    }
}
