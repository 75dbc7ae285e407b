import java.util.Random;

/** Laws of the numbers on lines made of mixed parts: what is undone comes back, and all answers tell the same. */
public final class LawTest {
    private static final String[] PARTS = {"#2(2)", "#2(3)", "#3(2)", "#3(-5)", "#4(3)", "#5(6)", "#6(2)", "7/3", "-12",
        "@0(1,-3,0,1)", "@1(1,-3,0,1)", "@2(1,-3,0,1)", "@0(-1,-1,0,1)", "@1(2,0,-4,0,1)", "@3(1,0,-10,0,1)",
        "@0(-999999999,5,1)", "@1(-7,0,999999937)", "@0(-3,-9,0,0,0,0,1)", "@1(-3,-9,0,0,0,0,1)", "#2(2)+#2(3)",
        "#2(2)+#3(2)", "#2(2+#2(2))", "(1+#2(5))/2", "@0(1,3,-6,-4,5,1,-1)", "@5(1,3,-6,-4,5,1,-1)",
        "@1(-2,80000,-800000000,0,0,1)", "@2(-2,80000,-800000000,0,0,1)", "#2(1451)", "@0(-2903,1451)"};

    public static void main(String[] args) {
        Random random = new Random(6);
        for (int i = 0; i < 400; i++) {
            laws(PARTS[random.nextInt(PARTS.length)], PARTS[random.nextInt(PARTS.length)]);
        }
        for (String part : PARTS) {
            again(part);
            powers(part);
        }
        order();
        Check.end();
    }

    /** A law holds, or one of its operations has no value. */
    private static void law(Check c, String line) {
        int answer = c.line(line);
        if (answer == 0) {
            Check.same(line, c.write(16), "[0,1]#0");
        } else {
            Check.same(line + " has no value or too high a degree", answer == -3 || answer == -4, true);
        }
    }

    private static void laws(String x, String y) {
        Check c = new Check();
        Check.same(x, c.line("a=" + x), 0);
        Check.same(y, c.line("b=" + y), 0);
        law(c, "a+b-b?a");
        law(c, "a-b+b?a");
        law(c, "a*b/b?a");
        law(c, "a/b*b?a");
        law(c, "a+b?b+a");
        law(c, "a*b?b*a");
        law(c, "a-b?-(b-a)");
        law(c, "a/b?1/(b/a)");
        law(c, "-a*-b?a*b");
        law(c, "(a+b)*(a-b)?a*a-b*b");
        int order = c.x.compare(0, 1);
        Check.same("order the other way", c.x.compare(1, 0), -order);
        if (c.line("a-b") == 0) {
            Check.same("order of " + x + " and " + y, order, sign(c, 16));
        }
        Check.same("order in a line", c.line("a?b"), 0);
        Check.same("order in a line", -c.x.coefficient(16, 0), order);
    }

    private static int sign(Check c, int name) {
        boolean zero = c.x.degree(name) == 1 && c.x.coefficient(name, 0) == 0;
        return zero ? 0 : c.floor(name, 0).startsWith("-") ? -1 : 1;
    }

    /** The polynomial and the index of a value lead back to it. */
    private static void again(String part) {
        Check c = new Check();
        c.line("a=" + part);
        StringBuilder line = new StringBuilder("@" + c.x.index(0) + "(");
        for (int k = 0; k <= c.x.degree(0); k++) {
            line.append(k == 0 ? "" : ",").append(c.x.coefficient(0, k));
        }
        Check.same("its polynomial", c.line(line + ")"), 0);
        Check.same("root of its polynomial " + line, c.x.compare(0, 16), 0);
        Check.same("one root more", c.line("@" + Math.min(7, c.x.roots(0)) + line.substring(2) + ")"), -7);
        law(c, "--a?a");
        law(c, "1/(1/a)?a");
        law(c, "a-a");
        law(c, "a/a-1");
        law(c, "a+a-2*a");
        law(c, "a*a/a-a");
    }

    private static void powers(String part) {
        for (int k = 2; k <= 6; k++) {
            Check c = new Check();
            c.line("a=" + part);
            String power = "a" + "*a".repeat(k - 1);
            boolean even = k % 2 == 0;
            law(c, "#" + k + "(" + power + ")?" + (even && sign(c, 0) < 0 ? "-a" : "a"));
            if (!even || sign(c, 0) >= 0) {
                law(c, "b=#" + k + "(a)-#" + k + "(a)");
                if (c.line("b=#" + k + "(a)") == 0) {
                    law(c, power.replace('a', 'b') + "?a");
                }
            }
        }
    }

    /** The roots of a polynomial rise, and so do their digits. */
    private static void order() {
        Check c = new Check();
        for (int i = 0; i < 6; i++) {
            Check.same("root " + i, c.line((char) ('a' + i) + "=@" + i + "(1,3,-6,-4,5,1,-1)"), 0);
            if (i > 0) {
                Check.same("rising", c.x.compare(i - 1, i), -1);
            }
        }
        for (int n = 0; n < 30; n++) {
            String less = c.floor(5, n);
            String more = c.floor(5, n + 1);
            Check.same("digits go on", more.substring(0, less.length()), less);
        }
    }
}
