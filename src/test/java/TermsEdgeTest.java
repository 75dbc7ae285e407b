/** The edges that the document's "Terms" name, a test for each sentence, which stands above it. */
public final class TermsEdgeTest {
    private static final String GREATEST = "999999999+999999999+147483649";

    public static void main(String[] args) {
        polynomials();
        indexes();
        degreesOfValues();
        lowestCoefficients();
        middleCoefficients();
        highestCoefficients();
        names();
        it();
        emptyLines();
        linesThatEndTooEarly();
        firstBytesThatNoLineGoesOnWith();
        namesWithoutValue();
        noValueFromAnOperation();
        noValueFromARoot();
        noValueFromAPolynomial();
        productOfTwoDegrees();
        productOfOrderAndDegree();
        degreeOfZero();
        divisionByZero();
        evenRootsBelowZero();
        noSuchRoot();
        noRootAheadOfNoValue();
        Check.end();
    }

    /** "whose coefficients have no common divisor above 1, and whose highest one is above 0" */
    private static void polynomials() {
        Check c = new Check();
        c.works("@0(6,-4)", "[-3,2]#0");
        c.works("@1(8,0,-4)", "[-2,0,1]#1");
        c.works("@0(-999999999,0,-999999999,-999999999)", "[1,0,1,1]#0");
        c.works("6/-4", "[3,2]#0");
        c.works("0/-7", "[0,1]#0");
        c.works("@0(0,-7)", "[0,1]#0");
        c.works("@0(2,-3,1)", "[-1,1]#0");
        c.works("#6(64)", "[-2,1]#0");
        c.works("#6(8)", "[-2,0,1]#1");
    }

    /** "its INDEX is how many real roots of it are less" */
    private static void indexes() {
        Check c = new Check();
        for (int i = 0; i < 6; i++) {
            Check.same("line", c.line("@" + i + "(1,3,-6,-4,5,1,-1)"), 0);
            Check.same("index " + i, c.x.index(16), i);
            Check.same("roots", c.x.roots(16), 6);
        }
        c.works("@2(-6,-3,2,1)", "[-3,0,1]#1");
        c.works("@1(-6,-3,2,1)", "[-3,0,1]#0");
        c.works("@0(-6,-3,2,1)", "[2,1]#0");
    }

    /** "VALUES are algebraic numbers whose polynomials have a degree of at most 6" */
    private static void degreesOfValues() {
        Check c = new Check();
        c.works("@0(-2,0,0,0,0,0,1)", "[-2,0,0,0,0,0,1]#0");
        c.fails("@0(-2,0,0,0,0,0,0,1)", -3);
        c.fails("@0(-2,0,0,0,0,0,0,0,1)", -3);
        c.works("@0(4,0,-2,0,0,0,-2,0,1)", "[-2,0,1]#0");
        c.works("@1(4,0,-2,0,0,0,-2,0,1)", "[-2,0,0,0,0,0,1]#0");
        c.works("#2(2)+#3(2)", "[-4,-24,12,-4,-6,0,1]#1");
        c.fails("#2(2)+#4(3)", -3);
        c.fails("#2(#4(2))", -3);
    }

    /** "and coefficients from -2147483647 to 2147483647", of x to the 0 */
    private static void lowestCoefficients() {
        Check c = new Check();
        c.works("a=" + GREATEST, "[-2147483647,1]#0");
        c.fails("a+1", -3);
        c.works("-a", "[2147483647,1]#0");
        c.fails("-a-1", -3);
        c.works("#2(a)", "[-2147483647,0,1]#1");
        c.works("b=#3(-a)", "[2147483647,0,0,1]#0");
        c.fails("b*2", -3);
        c.works("#2(536870911)*2", "[-2147483644,0,1]#1");
        c.fails("#2(536870912)*2", -3);
        c.fails("#2(268435457)*#2(8)", -3);
        c.fails("536870912*4", -3);
        c.fails("-536870912*4", -3);
        c.works("-536870911*4", "[2147483644,1]#0");
    }

    /** "and coefficients from -2147483647 to 2147483647", of powers between */
    private static void middleCoefficients() {
        Check c = new Check();
        c.works("a=@1(-1,-429496729,1)*5+1", "[2147483621,-2147483647,1]#1");
        c.works("-a", "[2147483621,2147483647,1]#0");
        c.fails("a+1", -3);
        c.fails("@1(-1,-357913941,1)*6+1", -3);
        c.fails("@0(-1,357913941,1)*6-1", -3);
        c.works("@1(-1,-357913941,1)*6", "[-36,-2147483646,1]#1");
    }

    /** "and coefficients from -2147483647 to 2147483647", of the highest power */
    private static void highestCoefficients() {
        Check c = new Check();
        c.works("a=" + GREATEST, "[-2147483647,1]#0");
        c.works("1/a", "[-1,2147483647]#0");
        c.works("-1/a", "[1,2147483647]#0");
        c.works("#6(1/a)", "[-1,0,0,0,0,0,2147483647]#1");
        c.fails("1/(a+1)", -3);
        c.fails("1/536870912/4", -3);
        c.works("1/536870911/4", "[-1,2147483644]#0");
        c.fails("#2(1/536870912)/2", -3);
        c.works("#2(1/536870911)/2", "[-1,0,2147483644]#1");
        c.works("a/a", "[-1,1]#0");
        c.works("(a-1)/a", "[-2147483646,2147483647]#0");
    }

    /** "NAMES a .. p (0 .. 15) have a value, or none, as all have at first" */
    private static void names() {
        Check c = new Check();
        for (int name = 0; name < 16; name++) {
            String letter = String.valueOf((char) ('a' + name));
            Check.same("no value at first: " + letter, c.line(letter), -2);
            Check.same("degree at first: " + letter, c.x.degree(name), 0);
        }
        for (int name = 0; name < 16; name++) {
            Check.same("set", c.line((char) ('a' + name) + "=" + (name + 20)), 0);
        }
        for (int name = 0; name < 16; name++) {
            Check.same("name " + name, c.write(name), "[" + (-name - 20) + ",1]#0");
        }
        Check.same("all names", c.x.look(0), 16);
        Check.breaks("q", 0);
        Check.breaks("q=1", 0);
        Check.breaks("`", 0);
        Check.breaks("`=1", 0);
        Check.breaks("P", 0);
    }

    /** "IT (16) is the value of the latest line that was done, 0 at first." */
    private static void it() {
        Check c = new Check();
        Check.same("IT at first", c.write(16), "[0,1]#0");
        c.works("b=#2(2)", "[-2,0,1]#1");
        c.fails("1/0", -5);
        c.fails("1+", -1);
        c.fails("c", -2);
        Check.same("IT behind lines that were not done", c.write(16), "[-2,0,1]#1");
        c.works("b?3", "[1,1]#0");
        Check.same("b is left", c.write(1), "[-2,0,1]#1");
    }

    /** "-1 the line is none, also an empty one (its PLACE then, from 0 on ..)" */
    private static void emptyLines() {
        Check.breaks("", 0);
        Check.breaks(" ", 1);
        Check.breaks(" ".repeat(400), 400);
        Check.breaks("?", 0);
        Check.breaks(")", 0);
        Check.breaks("\u0000", 0);
        Check.breaks("\u00ff", 0);
    }

    /** ".. how many there are if it ends .." */
    private static void linesThatEndTooEarly() {
        String[] lines = {"-", "a=", "a = ", "1+", "1*", "1/", "1?", "1 ? ", "(", "(1", "((1)", "#", "# ", "#2", "#2(",
            "#2(1", "@", "@0", "@0(", "@0(-", "@0(1", "@0(1,", "@0(1,- ", "@0(1,2,3,4,5,6,7,8,9", "-(", "a=-", "a=1?",
            "a=1-"};
        for (String line : lines) {
            Check.breaks(line, line.length());
        }
        Check.breaks("1" + "+1".repeat(199) + "-", 400);
        Check.breaks("(".repeat(12) + "-".repeat(388), 400);
    }

    /** "the first byte .. with which no line goes on" */
    private static void firstBytesThatNoLineGoesOnWith() {
        String[] rows = {"1 1 2", "a b 2", "a(1) 1", "1# 1", "1@ 1", "1( 1", "(1)2 3", "(1)a 3", "#2(4)3 5",
            "@0(1,1)1 7", "a=b=c 3", "a?b?c 3", "a?b=c 3", "a?a=b 3", "(a?b) 2", "(a=b) 2", "1=1 1", "1,1 1", "1.1 1",
            "+1 0", "*1 0", "1+*2 2", "1-+2 2", "1+) 2", "() 1", "(1,2) 2", "# 2 ) 4", "#2[ 2", "@0[ 2", "@0(1;2) 4",
            "@0(1?2) 4", "@0(2-1) 4", "@0(#2(1)) 3", "@0(b,1) 3", "@0(1,,2) 5", "@0(-,1) 4", "@0() 3", "@a(1) 1",
            "#b(1) 1", "#(4) 1", "@(1) 1", "=1 0", "a= =1 3", "a?=1 2", "a-=1 2"};
        for (String row : rows) {
            int at = row.lastIndexOf(' ');
            Check.breaks(row.substring(0, at), Integer.parseInt(row.substring(at + 1)));
        }
        for (int b = 0; b < 256; b++) {
            boolean ends = "0123456789 ".indexOf((char) b) >= 0;
            boolean goesOn = "+-*/?".indexOf((char) b) >= 0;
            Check c = new Check();
            Check.same("line of 1 and byte " + b, c.line("1" + (char) b), ends ? 0 : -1);
            Check.same("place of 1 and byte " + b, c.x.look(1), ends ? -1 : goesOn ? 2 : 1);
        }
    }

    /** "-2 a name without a value" */
    private static void namesWithoutValue() {
        Check c = new Check();
        c.fails("a", -2);
        c.fails("p", -2);
        c.fails("-a", -2);
        c.fails("a=a", -2);
        c.fails("0*a", -2);
        c.fails("a?a", -2);
        c.fails("#2(a)", -2);
        c.works("a=0", "[0,1]#0");
        c.works("a", "[0,1]#0");
        c.x.drop(0);
        c.fails("a", -2);
    }

    /** "-3 what comes out of an operation .. is no value" */
    private static void noValueFromAnOperation() {
        Check c = new Check();
        c.fails("46341*46341", -3);
        c.works("46340*46340", "[-2147395600,1]#0");
        c.fails("1/46341/46341", -3);
        c.works("1/46340/46340", "[-1,2147395600]#0");
        c.fails("999999999*3-999999999*2", -3);
        c.works("999999999*2-999999999*2", "[0,1]#0");
        c.fails("#2(2)-#4(3)", -3);
        c.fails("#2(2)/(#4(3)+1)", -3);
        c.fails("#2(46341)*46341", -3);
    }

    /** "-3 what comes out of .. a root .. is no value" */
    private static void noValueFromARoot() {
        Check c = new Check();
        c.fails("#2(#4(2))", -3);
        c.fails("#4(#2(2))", -3);
        c.fails("#6(#2(2))", -3);
        c.works("#3(#2(2))", "[-2,0,0,0,0,0,1]#1");
        c.works("#6(99+70*#2(2))", "[-1,-2,1]#1");
    }

    /** "-3 what comes out of .. a polynomial is no value" */
    private static void noValueFromAPolynomial() {
        Check c = new Check();
        c.fails("@0(-2,0,0,0,0,0,0,1)", -3);
        c.fails("@1(-3,1,0,0,0,0,0,0,1)", -3);
        c.works("@0(2,-2,0,0,0,0,0,-1,1)", "[-1,1]#0");
        c.fails("@1(2,-2,0,0,0,0,0,-1,1)", -3);
    }

    /** "-4 for a sum, difference, product or quotient the degrees of both numbers .. have a product above 12" */
    private static void productOfTwoDegrees() {
        Check c = new Check();
        c.works("#6(2)*#2(2)", "[-4,0,0,1]#0");
        c.works("#2(2)/#6(2)", "[-2,0,0,1]#0");
        c.fails("#6(2)+#2(3)", -3);
        c.fails("#3(2)*#4(2)", -3);
        c.fails("#4(2)-#3(2)", -3);
        for (String operation : new String[] {"+", "-", "*", "/"}) {
            c.fails("#5(2)" + operation + "#3(2)", -4);
            c.fails("#3(2)" + operation + "#5(2)", -4);
            c.fails("#4(2)" + operation + "#4(2)", -4);
            c.fails("#6(2)" + operation + "#6(2)", -4);
        }
        c.works("a=#6(2)", "[-2,0,0,0,0,0,1]#1");
        c.fails("a-a", -4);
        c.fails("a/a", -4);
        c.works("a?a", "[0,1]#0");
        c.works("-a", "[-2,0,0,0,0,0,1]#0");
        c.works("@1(1,-66,-45,-24,15,-6,1)?a", "[-1,1]#0");
    }

    /** "(for a root: k and the number's degree ..) have a product above 12, whatever would come out" */
    private static void productOfOrderAndDegree() {
        Check c = new Check();
        c.works("#2(@1(1,-66,-45,-24,15,-6,1))", "[-1,-6,15,-20,15,-6,1]#1");
        c.works("#4(@0(-81,27,-27,1))", "[-3,3,-3,1]#0");
        c.works("#3(@1(-1,-148,-54,-4,1))", "[-1,-4,6,-4,1]#1");
        c.works("#6(99+70*#2(2))", "[-1,-2,1]#1");
        c.fails("#5(@0(-81,27,-27,1))", -4);
        c.fails("#4(@1(-1,-148,-54,-4,1))", -4);
        c.fails("#3(#5(2))", -4);
        c.fails("#3(#6(2))", -4);
        c.fails("#6(#6(2))", -4);
        c.works("#2(#2(#2(16)))", "[-2,0,1]#1");
    }

    /** "the degrees of their polynomials, so 1 of 0" */
    private static void degreeOfZero() {
        Check c = new Check();
        for (int k = 2; k <= 6; k++) {
            c.works("#" + k + "(0)", "[0,1]#0");
        }
        c.works("0*#6(2)", "[0,1]#0");
        c.works("#6(2)*0", "[0,1]#0");
        c.works("0/#6(2)", "[0,1]#0");
        c.works("#6(2)+0", "[-2,0,0,0,0,0,1]#1");
        c.works("0-#6(2)", "[-2,0,0,0,0,0,1]#0");
        Check.same("IT at first is 0, of degree 1", new Check().x.degree(16), 1);
    }

    /** "-5 division by 0", the first of all where more than one holds */
    private static void divisionByZero() {
        Check c = new Check();
        c.fails("1/0", -5);
        c.fails("0/0", -5);
        c.fails("#6(2)/0", -5);
        c.fails("#2(2)/(#2(2)-#2(2))", -5);
        c.fails("1/@0(0,1)", -5);
        c.fails("1/-0", -5);
        c.fails("1/#2(0)", -5);
        c.works("a=1?1", "[0,1]#0");
        c.fails("1/a", -5);
    }

    /** "-6 a root of even order of a number below 0", behind -4 */
    private static void evenRootsBelowZero() {
        Check c = new Check();
        for (int k = 2; k <= 6; k++) {
            if (k % 2 == 0) {
                c.fails("#" + k + "(-1)", -6);
                c.fails("#" + k + "(-1/999999999)", -6);
            } else {
                c.works("#" + k + "(-1)", "[1,1]#0");
            }
        }
        c.fails("#2(7/5-#2(2))", -6);
        c.works("#2(#2(2)-7/5)", "[-1,0,70,0,25]#1");
        c.fails("#2(-#6(2))", -6);
        c.fails("#4(-#3(2))", -6);
        c.fails("#4(-#4(2))", -4);
        c.fails("#6(-#3(2))", -4);
        c.works("#2(-0)", "[0,1]#0");
    }

    /** "-7 no such root of a polynomial, or one whose coefficients are all 0" */
    private static void noSuchRoot() {
        Check c = new Check();
        c.fails("@0(1,0,1)", -7);
        c.works("@1(-2,0,1)", "[-2,0,1]#1");
        c.fails("@2(-2,0,1)", -7);
        c.works("@0(9,-6,1)", "[-3,1]#0");
        c.fails("@1(9,-6,1)", -7);
        c.fails("@0(0)", -7);
        c.fails("@7(0,0)", -7);
        c.fails("@0(0,0,0,0,0,0,0,0,0)", -7);
        c.works("@7(0,-5040,13068,-13132,6769,-1960,322,-28,1)", "[-7,1]#0");
        c.works("@0(0,-5040,13068,-13132,6769,-1960,322,-28,1)", "[0,1]#0");
        c.fails("@7(-5040,13068,-13132,6769,-1960,322,-28,1)", -7);
        c.works("@6(-5040,13068,-13132,6769,-1960,322,-28,1)", "[-7,1]#0");
    }

    /** "-7 .. (ahead of -3)" */
    private static void noRootAheadOfNoValue() {
        Check c = new Check();
        c.fails("@0(-2,0,0,0,0,0,0,1)", -3);
        c.fails("@1(-2,0,0,0,0,0,0,1)", -7);
        c.fails("@1(-2,0,0,0,0,0,0,0,1)", -3);
        c.fails("@2(-2,0,0,0,0,0,0,0,1)", -7);
        c.fails("@0(2,0,0,0,0,0,0,0,1)", -7);
        c.fails("@2(-120609,87592,-119074,46002,158720,18082,6568)", -7);
    }
}
