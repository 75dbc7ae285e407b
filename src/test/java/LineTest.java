/** Lines: how they are read, their places, and which answer below 0 comes first. */
public final class LineTest {
    public static void main(String[] args) {
        reading();
        places();
        brackets();
        answers();
        order();
        limits();
        Check.end();
    }

    private static String times(String text, int n) {
        return text.repeat(n);
    }

    private static void reading() {
        Check c = new Check();
        c.works("7", "[-7,1]#0");
        c.works("000000007", "[-7,1]#0");
        c.works("  7  ", "[-7,1]#0");
        c.works("1-2-3", "[4,1]#0");
        c.works("2+3*4", "[-14,1]#0");
        c.works("(2+3)*4", "[-20,1]#0");
        c.works("12/3/2", "[-2,1]#0");
        c.works("12/3*2", "[-8,1]#0");
        c.works("1-2*3-4", "[9,1]#0");
        c.works("--3", "[-3,1]#0");
        c.works("- - - 3", "[3,1]#0");
        c.works("2*-3", "[6,1]#0");
        c.works("2--3", "[-5,1]#0");
        c.works("-2*-3", "[-6,1]#0");
        c.works("-#2(4)", "[2,1]#0");
        c.works(" # 3 ( 8 ) ", "[-2,1]#0");
        c.works("@ 1 ( - 6 , 1 , 1 )", "[-2,1]#0");
        c.works("@0(-6,1,1,0,0,0,0,0,0)", "[3,1]#0");
        c.works("@0(-000000006,000000002)", "[-3,1]#0");
        c.works(" b = 2 ? 3 ", "[1,1]#0");
        c.works("b", "[1,1]#0");
        c.works("1+1?3-1", "[0,1]#0");
        c.works("#2(2)?#2(3)", "[1,1]#0");
        c.works(times("-", 399) + "1", "[1,1]#0");
        c.works("1" + times("+1", 199), "[-200,1]#0");
    }

    private static void places() {
        Check.breaks("", 0);
        Check.breaks("   ", 3);
        Check.breaks("+", 0);
        Check.breaks("1+", 2);
        Check.breaks("1+ ", 3);
        Check.breaks("1 1", 2);
        Check.breaks("1a", 1);
        Check.breaks("a a", 2);
        Check.breaks("q", 0);
        Check.breaks("A", 0);
        Check.breaks("a=", 2);
        Check.breaks("a==1", 2);
        Check.breaks("a=b=1", 3);
        Check.breaks("-a=1", 2);
        Check.breaks("(a)=1", 3);
        Check.breaks("1=2", 1);
        Check.breaks("1?2?3", 3);
        Check.breaks("1?", 2);
        Check.breaks("?1", 0);
        Check.breaks("(1?2)", 2);
        Check.breaks("1234567890", 9);
        Check.breaks("0000000001", 9);
        Check.breaks("12 34", 3);
        Check.breaks("()", 1);
        Check.breaks("(1", 2);
        Check.breaks("(1))", 3);
        Check.breaks("1)", 1);
        Check.breaks("1,2", 1);
        Check.breaks("1.5", 1);
        Check.breaks("1*+2", 2);
        Check.breaks("1**2", 2);
        Check.breaks("#", 1);
        Check.breaks("#1(2)", 1);
        Check.breaks("#7(2)", 1);
        Check.breaks("#a(2)", 1);
        Check.breaks("#22(2)", 2);
        Check.breaks("#2 2(2)", 3);
        Check.breaks("#2", 2);
        Check.breaks("#2()", 3);
        Check.breaks("#2(1,2)", 4);
        Check.breaks("@8(1)", 1);
        Check.breaks("@-1(1)", 1);
        Check.breaks("@0", 2);
        Check.breaks("@0 1", 3);
        Check.breaks("@0()", 3);
        Check.breaks("@0(1,)", 5);
        Check.breaks("@0(,1)", 3);
        Check.breaks("@0(--1)", 4);
        Check.breaks("@0(+1)", 3);
        Check.breaks("@0(a)", 3);
        Check.breaks("@0((1))", 3);
        Check.breaks("@0(1+1)", 4);
        Check.breaks("@0(1 2)", 5);
        Check.breaks("@0(1234567890)", 12);
        Check.breaks("@0(1,2,3,4,5,6,7,8,9,1)", 20);
        Check.breaks("1\u0080", 1);
        Check.breaks("\u00ff1", 0);
        Check.breaks("1\u0000", 1);
        Check.breaks("1\t", 1);
        Check.breaks(times("-", 400), 400);
    }

    private static void brackets() {
        Check c = new Check();
        c.works(times("(", 12) + "1" + times(")", 12), "[-1,1]#0");
        Check.breaks(times("(", 13) + "1" + times(")", 13), 12);
        c.works(times("#2(", 12) + "1" + times(")", 12), "[-1,1]#0");
        Check.breaks(times("#2(", 13) + "1" + times(")", 13), 38);
        c.works(times("(", 11) + "@0(1,1)" + times(")", 11), "[1,1]#0");
        Check.breaks(times("(", 12) + "@0(1,1)" + times(")", 12), 14);
        Check.breaks(times("(", 12) + "# 2 (1)" + times(")", 12), 16);
        Check.breaks(times("(", 12) + "#2", 14);
        c.works(times("(", 12) + "1" + times(")", 12) + "+" + times("(", 12) + "1" + times(")", 12), "[-2,1]#0");
        c.works(times("1+2*(", 12) + "1+2*3" + times(")", 12), "[-32767,1]#0");
        c.works("0?" + times("1-2/(", 12) + "1-2/3" + times(")", 12), "[1,1]#0");
    }

    private static void answers() {
        Check c = new Check();
        c.line("a=#2(2)");
        c.fails("b", -2);
        c.fails("999999999*999999999", -3);
        c.fails("#2(2)+#4(3)", -3);
        c.fails("#5(2)+#3(2)", -4);
        c.fails("#5(2)-#5(2)", -4);
        c.fails("#4(2)*#4(2)", -4);
        c.fails("#4(2)/#4(2)", -4);
        c.fails("#4(#4(2))", -4);
        c.fails("#5(#3(2))", -4);
        c.fails("1/0", -5);
        c.fails("#6(2)/(a-a)", -5);
        c.fails("#2(-1)", -6);
        c.fails("#4(-a)", -6);
        c.fails("#6(1-a)", -6);
        c.works("#3(-8)", "[2,1]#0");
        c.fails("#5(-a)", -3);
        c.fails("@0(5)", -7);
        c.fails("@0(0)", -7);
        c.fails("@0(0,0,0,0,0,0,0,0,0)", -7);
        c.fails("@0(5,0,0)", -7);
        c.fails("@0(1,0,1)", -7);
        c.fails("@2(-2,0,1)", -7);
        c.fails("@1(4,-4,1)", -7);
        c.fails("@7(-1,0,1)", -7);
        c.fails("@0(-2,0,0,0,0,0,0,1)", -3);
        c.fails("@1(-2,0,0,0,0,0,0,1)", -7);
        c.works("#6(0)", "[0,1]#0");
        c.works("0*a", "[0,1]#0");
        c.works("0/a", "[0,1]#0");
    }

    private static void order() {
        Check c = new Check();
        c.line("a=#4(2)");
        c.line("b=-a");
        c.fails("1/0+z", -1);
        c.fails("c+1/0", -2);
        c.fails("1/0+c", -5);
        c.fails("(1/0)*(#2(-1))", -5);
        c.fails("#2(-1)+1/0", -6);
        c.fails("#2(c)+1/0", -2);
        c.fails("#4(b)", -4);
        c.fails("a/(a*0)", -5);
        c.fails("1/0?c", -5);
        c.fails("c?1/0", -2);
        c.fails("d=c", -2);
        c.fails("d=d+1", -2);
        c.fails("999999999*999999999/0", -3);
        c.fails("-c/0", -2);
        c.fails("@0(1)+c", -7);
        c.fails("c+@0(1)", -2);
        Check.same("no d", c.x.degree(3), 0);
        c.works("a?a", "[0,1]#0");
        c.works("a?#5(3)", "[1,1]#0");
    }

    private static void limits() {
        Check c = new Check();
        c.works("a=999999999+999999999+147483649", "[-2147483647,1]#0");
        c.fails("a+1", -3);
        c.fails("1-a-2-1+1/2", -3);
        c.works("-a", "[2147483647,1]#0");
        c.works("a-1", "[-2147483646,1]#0");
        c.works("1/a", "[-1,2147483647]#0");
        c.fails("1/a/2", -3);
        c.fails("a*a", -3);
        c.fails("a*1/2+1/3", -3);
        c.works("a/a", "[-1,1]#0");
        c.works("b=#2(a)", "[-2147483647,0,1]#1");
        c.works("-b", "[-2147483647,0,1]#0");
        c.fails("b+1/2", -3);
        c.works("b+1", "[-2147483646,-2,1]#1");
        c.fails("b*2", -3);
        c.works("1/b", "[-1,0,2147483647]#1");
        c.works("b*b", "[-2147483647,1]#0");
        c.works("b-b", "[0,1]#0");
        c.works("46340*#2(1)", "[-46340,1]#0");
        c.works("46340*#2(1)*46341", "[-2147441940,1]#0");
        c.fails("46341*46341", -3);
        c.fails("#2(2)*46340", -3);
        c.works("#2(2)*32767", "[-2147352578,0,1]#1");
        c.fails("#2(2)*32768", -3);
    }
}
