/** The edges of a line that the document names, a test for each sentence, which stands above it. */
public final class LineEdgeTest {
    public static void main(String[] args) {
        blanks();
        digits();
        orders();
        evenOrders();
        rootNumbers();
        countsOfCoefficients();
        coefficientsAreNumbers();
        lastCoefficients();
        withoutX();
        allZero();
        brackets();
        bracketsOfRoots();
        bracketsOfPolynomials();
        bracketsOpenAtOnce();
        order();
        readAsAWhole();
        fromLeftToRight();
        bothNumbersAhead();
        otherSign();
        firstOfSeveralAnswers();
        nameAndIt();
        nothingChanges();
        fullTape();
        Check.end();
    }

    /** "blanks (32) may stand anywhere but in a number (behind #, @, - too)" */
    private static void blanks() {
        Check c = new Check();
        c.works("  a  =  -  #  2  (  4  )  ?  @  1  (  -  6  ,  1  ,  1  )  ", "[1,1]#0");
        c.works("   7", "[-7,1]#0");
        c.works("7   ", "[-7,1]#0");
        c.works("- - 7", "[-7,1]#0");
        c.works("# 3(8)", "[-2,1]#0");
        c.works("@ 0(- 7,1)", "[-7,1]#0");
        Check.breaks("1 2", 2);
        Check.breaks("@0(1 2)", 5);
        Check.breaks("@0(-1 2)", 6);
        Check.breaks("1\t", 1);
        Check.breaks("1\n", 1);
        Check.breaks("1\u00a0", 1);
    }

    /** "a number (1 to 9 digits, 0s at the beginning, too)" */
    private static void digits() {
        Check c = new Check();
        c.works("0", "[0,1]#0");
        c.works("9", "[-9,1]#0");
        c.works("999999999", "[-999999999,1]#0");
        c.works("000000000", "[0,1]#0");
        c.works("000000012", "[-12,1]#0");
        Check.breaks("1000000000", 9);
        Check.breaks("0000000000", 9);
        Check.breaks("-1234567890", 10);
        Check.breaks("1+1234567890", 11);
        c.works("@0(-999999999,000000001)", "[-999999999,1]#0");
        Check.breaks("@0(0000000001,1)", 12);
        Check.breaks("@0(1,-1000000000)", 15);
    }

    /** "# k ( E ), k a digit 2 .. 6: the root of order k" */
    private static void orders() {
        Check c = new Check();
        for (int k = 0; k < 10; k++) {
            if (k >= 2 && k <= 6) {
                c.works("#" + k + "(1)", "[-1,1]#0");
            } else {
                Check.breaks("#" + k + "(1)", 1);
            }
        }
        c.works("#2(4)", "[-2,1]#0");
        c.works("#6(64)", "[-2,1]#0");
        Check.breaks("#02(4)", 1);
        Check.breaks("#22(4)", 2);
        Check.breaks("#-2(4)", 1);
        Check.breaks("#2 4", 3);
    }

    /** "for an even k the one that is not below 0" */
    private static void evenOrders() {
        Check c = new Check();
        c.works("#2(9)", "[-3,1]#0");
        c.works("#4(2)", "[-2,0,0,0,1]#1");
        c.works("#2(0)", "[0,1]#0");
        c.works("#3(-27)", "[3,1]#0");
        c.works("#5(-1/32)", "[1,2]#0");
        c.works("#2(@1(1,-3,1))", "[-1,-1,1]#1");
        c.works("#2(@0(1,-3,1))", "[-1,1,1]#1");
    }

    /** "@ i ( c , .. ), i a digit 0 .. 7" */
    private static void rootNumbers() {
        Check c = new Check();
        for (int i = 0; i < 10; i++) {
            if (i <= 7) {
                c.works("@" + i + "(0,-5040,13068,-13132,6769,-1960,322,-28,1)", "[" + -i + ",1]#0");
            } else {
                Check.breaks("@" + i + "(0,-5040,13068,-13132,6769,-1960,322,-28,1)", 1);
            }
        }
        Check.breaks("@00(0,1)", 2);
        Check.breaks("@-0(0,1)", 1);
    }

    /** "one to nine c" */
    private static void countsOfCoefficients() {
        StringBuilder list = new StringBuilder();
        for (int count = 1; count <= 11; count++) {
            list.append(count == 1 ? "" : ",").append("1");
            String line = "@0(" + list + ")";
            Check c = new Check();
            if (count > 9) {
                Check.breaks(line, 20);
            } else if (count % 2 == 1) {
                c.fails(line, -7);
            } else {
                c.works(line, "[1,1]#0");
            }
        }
        Check.breaks("@0()", 3);
        Check.breaks("@0(1,2,3,4,5,6,7,8,9", 20);
        Check.breaks("@0(1,2,3,4,5,6,7,8,9,", 20);
        Check.breaks("@0(1,2,3,4,5,6,7,8,9 ,", 21);
    }

    /** "each a number, or - and one" */
    private static void coefficientsAreNumbers() {
        Check c = new Check();
        c.works("@0(-0,-1)", "[0,1]#0");
        c.works("@0(-999999999,-999999999)", "[1,1]#0");
        Check.breaks("@0(--1,1)", 4);
        Check.breaks("@0(+1,1)", 3);
        Check.breaks("@0((1),1)", 3);
        Check.breaks("@0(a,1)", 3);
        Check.breaks("@0(#2(4),1)", 3);
        Check.breaks("@0(1+1,1)", 4);
        Check.breaks("@0(1/2,1)", 4);
    }

    /** "(the last ones may be 0: its degree is less then ..)" */
    private static void lastCoefficients() {
        Check c = new Check();
        c.works("@0(-7,1,0)", "[-7,1]#0");
        c.works("@0(-7,1,0,0,0,0,0,0,0)", "[-7,1]#0");
        c.works("@0(-2,0,0,0,0,0,1,0,0)", "[-2,0,0,0,0,0,1]#0");
        c.works("@0(-7,1,-0)", "[-7,1]#0");
        c.works("@0(0,0,0,0,0,0,0,0,5)", "[0,1]#0");
        c.fails("@1(0,0,0,0,0,0,0,0,5)", -7);
    }

    /** "(.. without x it has no root)" */
    private static void withoutX() {
        Check c = new Check();
        c.fails("@0(1)", -7);
        c.fails("@0(-999999999)", -7);
        c.fails("@0(5,0)", -7);
        c.fails("@0(5,0,0,0,0,0,0,0,0)", -7);
        c.works("@0(0,5)", "[0,1]#0");
    }

    /** "-7 .. or one whose coefficients are all 0" */
    private static void allZero() {
        for (int count = 1; count <= 9; count++) {
            Check c = new Check();
            c.fails("@0(0" + ",0".repeat(count - 1) + ")", -7);
            c.fails("@7(-0" + ",-0".repeat(count - 1) + ")", -7);
        }
    }

    /** "At most 12 brackets are open at once (a thirteenth one is the place ..)." */
    private static void brackets() {
        Check c = new Check();
        c.works("(".repeat(12) + "5" + ")".repeat(12), "[-5,1]#0");
        Check.breaks("(".repeat(13) + "5" + ")".repeat(13), 12);
        Check.breaks("(".repeat(13), 12);
        Check.breaks("(".repeat(12), 12);
        Check.breaks(" ( ".repeat(13), 37);
        Check.breaks("(".repeat(400), 12);
        Check.breaks("(".repeat(12) + "1+(", 14);
        Check.breaks("a=1?-" + "(".repeat(12) + "-(1", 18);
        Check.breaks("(".repeat(12) + "5" + ")".repeat(13), 25);
    }

    /** "(a thirteenth one is the place, also behind # k ..)" */
    private static void bracketsOfRoots() {
        Check c = new Check();
        c.works("#2(".repeat(12) + "1" + ")".repeat(12), "[-1,1]#0");
        Check.breaks("#2(".repeat(13) + "1" + ")".repeat(13), 38);
        c.works("(".repeat(11) + "#2(4)" + ")".repeat(11), "[-2,1]#0");
        Check.breaks("(".repeat(12) + "#2(4)" + ")".repeat(12), 14);
        Check.breaks("(".repeat(12) + "# 2 (4)" + ")".repeat(12), 16);
        Check.breaks("(".repeat(12) + "#7(4)", 13);
        Check.breaks("(".repeat(12) + "#2", 14);
        Check.breaks("#2(".repeat(12) + "(", 36);
    }

    /** "(a thirteenth one is the place, also behind .. @ i)" */
    private static void bracketsOfPolynomials() {
        Check c = new Check();
        c.works("(".repeat(11) + "@0(-4,1)" + ")".repeat(11), "[-4,1]#0");
        Check.breaks("(".repeat(12) + "@0(-4,1)" + ")".repeat(12), 14);
        Check.breaks("#2(".repeat(12) + "@ 0 (1,1)" + ")".repeat(12), 40);
        Check.breaks("(".repeat(12) + "@8(1)", 13);
        Check.breaks("(".repeat(12) + "@0", 14);
    }

    /** "At most 12 brackets are open at once": those that are closed do not count. */
    private static void bracketsOpenAtOnce() {
        Check c = new Check();
        String deep = "(".repeat(12) + "1" + ")".repeat(12);
        c.works(deep + "+" + deep + "?" + deep, "[-1,1]#0");
        c.works("(1)+".repeat(20) + "1", "[-21,1]#0");
        c.works("(".repeat(11) + "(1)+#2(4)+@0(-3,1)+(4)" + ")".repeat(11), "[-10,1]#0");
        c.works("1-2/(".repeat(11) + "1-2/(3)" + ")".repeat(11) + "?0", "[1,1]#0");
        Check.breaks("(".repeat(11) + "(1)+((1))" + ")".repeat(11), 16);
    }

    /** "E ? E is -1, 0, 1 (a value as others, IT too): the one before is less, the same, greater." */
    private static void order() {
        Check c = new Check();
        c.works("1?2", "[1,1]#0");
        c.works("2?2", "[0,1]#0");
        c.works("a=3?2", "[-1,1]#0");
        Check.same("name", c.write(0), "[-1,1]#0");
        c.works("a+1", "[-2,1]#0");
        c.works("#6(2)?#5(2)", "[1,1]#0");
        c.works("#2(2)?665857/470832", "[1,1]#0");
        c.works("#2(2)?941664/665857", "[-1,1]#0");
        c.works("#2(2)?@1(-2,0,1)", "[0,1]#0");
        c.works("-0?0", "[0,1]#0");
    }

    /** "A line is read as a whole before any of it is worked" */
    private static void readAsAWhole() {
        Check c = new Check();
        c.line("a=5");
        c.fails("1/0+", -1);
        c.fails("b+)", -1);
        c.fails("a=#2(-1)(", -1);
        c.fails("@0(0)+@9(1)", -1);
        c.fails("999999999*999999999?", -1);
        Check.same("a", c.write(0), "[-5,1]#0");
    }

    /** "then all is worked from left to right, a name looked at in its turn" */
    private static void fromLeftToRight() {
        Check c = new Check();
        c.fails("1/0+b", -5);
        c.fails("b+1/0", -2);
        c.fails("#2(-1)*b", -6);
        c.fails("b*#2(-1)", -2);
        c.fails("@0(1)?b", -7);
        c.fails("b?@0(1)", -2);
        c.fails("46341*46341-1/0", -3);
        c.fails("1/0-46341*46341", -5);
        c.fails("1+2*b+1/0", -2);
        c.fails("(1/0)+(#2(-1))", -5);
        c.fails("#2(-1)+1/0", -6);
        c.fails("#4(2)*#4(2)+b", -4);
        c.works("8-3-2", "[-3,1]#0");
        c.works("64/8/4*2", "[-4,1]#0");
    }

    /** "both numbers ahead of what is done with them" */
    private static void bothNumbersAhead() {
        Check c = new Check();
        c.fails("1/0/b", -5);
        c.fails("46341*(46341*b)", -2);
        c.fails("0*(1/0)", -5);
        c.fails("#4(2)*(#4(2)+b)", -2);
        c.fails("1/(0*b)", -2);
        c.fails("46340*46341*b", -2);
        c.fails("46341*46341*b", -3);
        c.fails("46341+46341*46341*b", -3);
    }

    /** "(- F: F, then the number of the other sign, which takes no operation)" */
    private static void otherSign() {
        Check c = new Check();
        c.works("a=999999999+999999999+147483649", "[-2147483647,1]#0");
        c.works("-a", "[2147483647,1]#0");
        c.works("--a", "[-2147483647,1]#0");
        c.works("-#6(a)", "[-2147483647,0,0,0,0,0,1]#0");
        c.works("-0", "[0,1]#0");
        c.works("-@0(1,-3,0,1)", "[-1,-3,0,1]#2");
        c.fails("-b", -2);
        c.fails("-1/0", -5);
        c.works("2*--3", "[-6,1]#0");
        c.works("-2*3+1", "[5,1]#0");
        c.works("-".repeat(399) + "5", "[5,1]#0");
        c.works("-".repeat(398) + "5", "[-5,1]#0");
    }

    /** "(-5, then -4, then -6 or -7, then -3, where more than one holds)" */
    private static void firstOfSeveralAnswers() {
        Check c = new Check();
        c.fails("#6(2)/0", -5);
        c.fails("#4(-#4(2))", -4);
        c.fails("#6(-#5(2))", -4);
        c.fails("#4(2)*#5(3)", -4);
        c.fails("#2(-#6(2))", -6);
        c.fails("#4(-#3(2))", -6);
        c.fails("@3(-2,0,0,0,0,0,0,1)", -7);
        c.fails("@0(0,0,0,0,0,0,0,0)", -7);
        c.fails("#6(#3(2))", -4);
        c.fails("#2(#6(2))", -3);
    }

    /** "With NAME = the name has the value then; IT is it in any case." */
    private static void nameAndIt() {
        Check c = new Check();
        c.works("p=#2(2)", "[-2,0,1]#1");
        Check.same("name", c.write(15), "[-2,0,1]#1");
        c.works("7", "[-7,1]#0");
        Check.same("name behind another line", c.write(15), "[-2,0,1]#1");
        c.works("p=p*p", "[-2,1]#0");
        Check.same("name set from itself", c.write(15), "[-2,1]#0");
        c.works("a=p", "[-2,1]#0");
        c.works("p=0", "[0,1]#0");
        Check.same("a copy stays", c.write(0), "[-2,1]#0");
        Check.same("names", c.x.look(0), 2);
    }

    /** "A line with an answer below 0 changes nothing but the tape (which is used up) and, with -1, look 1." */
    private static void nothingChanges() {
        String[] lines = {"a=1+", "a=d", "a=46341*46341", "a=#4(2)*#4(2)", "a=1/0", "a=#2(-1)", "a=@0(1)"};
        for (int i = 0; i < lines.length; i++) {
            Check c = new Check();
            c.line("b)");
            c.line("a=#2(3)");
            c.line("c=5");
            c.floor(2, 3);
            Check.same(lines[i], c.line(lines[i]), -1 - i);
            Check.same("look 0 behind " + lines[i], c.x.look(0), 2);
            Check.same("look 1 behind " + lines[i], c.x.look(1), i == 0 ? 4 : 1);
            Check.same("look 2 behind " + lines[i], c.x.look(2), 0);
            Check.same("look 3 behind " + lines[i], c.x.look(3), 4);
            Check.same("look 4 behind " + lines[i], c.x.look(4), 2);
            Check.same("OUT behind " + lines[i], c.text(), "5000");
            Check.same("a behind " + lines[i], c.write(0), "[-3,0,1]#1");
            Check.same("c behind " + lines[i], c.write(2), "[-5,1]#0");
            Check.same("IT behind " + lines[i], c.write(16), "[-5,1]#0");
            Check.same("b behind " + lines[i], c.x.degree(1), 0);
        }
    }

    /** "The TAPE has at most 400 bytes": a line that fills it. */
    private static void fullTape() {
        Check c = new Check();
        c.works("1" + "+1".repeat(199) + " ", "[-200,1]#0");
        c.works("1" + "-1".repeat(198) + "-10", "[207,1]#0");
        c.works(" ".repeat(399) + "7", "[-7,1]#0");
        c.works("7" + " ".repeat(399), "[-7,1]#0");
        c.works("1" + "?".repeat(1) + " ".repeat(397) + "1", "[0,1]#0");
        Check.breaks("1" + " ".repeat(398) + "1", 399);
        Check.breaks("1+".repeat(200), 400);
        Check.breaks("-".repeat(400), 400);
    }
}
