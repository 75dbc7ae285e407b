import java.util.NoSuchElementException;

/** The promises 1 to 13, each with ordinary inputs, the edges that the document names, and wrong inputs. */
public final class PromiseTest {
    public static void main(String[] args) {
        newObject();
        feed();
        line();
        look();
        degree();
        coefficient();
        index();
        roots();
        compare();
        floor();
        write();
        out();
        drop();
        throwingCallsChangeNothing();
        objectsAreApart();
        Check.end();
    }

    private static void newObject() {
        Check c = new Check();
        for (int name = 0; name < 16; name++) {
            Check.same("new: degree of name " + name, c.x.degree(name), 0);
        }
        Check.same("new: IT", c.write(16), "[0,1]#0");
        c = new Check();
        Check.same("new: names", c.x.look(0), 0);
        Check.same("new: place", c.x.look(1), -1);
        Check.same("new: tape", c.x.look(2), 0);
        Check.same("new: OUT", c.x.look(3), 0);
        Check.same("new: done", c.x.look(4), 0);
    }

    private static void feed() {
        Check c = new Check();
        Check.same("feed 2", c.x.feed(2, 0x2B31L), 2);
        Check.same("feed 1, higher bytes of v are left", c.x.feed(1, 0x7A7A7A32L), 3);
        Check.same("1+2", c.x.line(), 0);
        Check.same("1+2 is", c.write(16), "[-3,1]#0");
        Check.illegal("feed 0", () -> c.x.feed(0, 1));
        Check.illegal("feed 9", () -> c.x.feed(9, 1));
        Check.illegal("feed -1", () -> c.x.feed(-1, 1));
        Check.illegal("feed least", () -> c.x.feed(Integer.MIN_VALUE, 1));
        Check.illegal("feed most", () -> c.x.feed(Integer.MAX_VALUE, 1));
        for (int i = 1; i <= 50; i++) {
            Check.same("feed 8", c.x.feed(8, 0x2020202020202020L), 8 * i);
        }
        Check.same("feed behind 400", Check.thrown(() -> c.x.feed(1, 49)), "IllegalStateException");
        Check.illegal("feed 9 behind 400", () -> c.x.feed(9, 49));
        Check.same("tape", c.x.look(2), 400);
        Check.same("400 blanks", c.x.line(), -1);
        Check.same("place of 400 blanks", c.x.look(1), 400);
        for (int i = 0; i < 49; i++) {
            c.x.feed(8, 0x2020202020202020L);
        }
        c.x.feed(1, 49);
        Check.same("feed 8 to 393", Check.thrown(() -> c.x.feed(8, 0)), "IllegalStateException");
        Check.same("feed 7 to 393", c.x.feed(7, 0x20202020202020L), 400);
        Check.same("a line of 400 bytes", c.x.line(), 0);
    }

    private static void line() {
        Check c = new Check();
        Check.same("a=5", c.line("a=5"), 0);
        Check.same("tape is used up", c.x.look(2), 0);
        Check.same("name a", c.write(0), "[-5,1]#0");
        Check.same("IT is it too", c.write(16), "[-5,1]#0");
        c.works("a*a-1", "[-24,1]#0");
        Check.same("a is left", c.write(0), "[-5,1]#0");
        c.works("p=a?6", "[1,1]#0");
        Check.same("name p", c.write(15), "[1,1]#0");
        c.works("a?5", "[0,1]#0");
        c.works("6?a", "[-1,1]#0");
        c.works("a=a+a", "[-10,1]#0");
        c.fails("b", -2);
        c.fails("a=1/0", -5);
        Check.same("a behind a=1/0", c.write(0), "[-10,1]#0");
        Check.same("tape is used up by a line that fails", c.x.look(2), 0);
        Check.same("no tape, no line", c.x.line(), -1);
        Check.same("place of no tape", c.x.look(1), 0);
    }

    private static void look() {
        Check c = new Check();
        c.line("c=1");
        c.line("d=c");
        c.line("d=2");
        Check.same("names", c.x.look(0), 2);
        Check.same("place before", c.x.look(1), -1);
        c.line("1+");
        Check.same("place", c.x.look(1), 2);
        c.line("1");
        c.line("1/0");
        Check.same("place stays", c.x.look(1), 2);
        c.feed("12345");
        Check.same("tape", c.x.look(2), 5);
        c.x.line();
        Check.same("tape behind the line", c.x.look(2), 0);
        Check.same("done", c.x.look(4), 5);
        c.x.write(2);
        Check.same("OUT", c.x.look(3), 8);
        c.line("7");
        Check.same("a line leaves OUT", c.text(), "[-1,1]#0");
        Check.illegal("look -1", () -> c.x.look(-1));
        Check.illegal("look 5", () -> c.x.look(5));
        Check.illegal("look least", () -> c.x.look(Integer.MIN_VALUE));
    }

    private static void degree() {
        Check c = new Check();
        c.line("a=#6(2)");
        c.line("p=3");
        Check.same("degree a", c.x.degree(0), 6);
        Check.same("degree b", c.x.degree(1), 0);
        Check.same("degree p", c.x.degree(15), 1);
        c.line("#2(3)");
        Check.same("degree IT", c.x.degree(16), 2);
        Check.illegal("degree -1", () -> c.x.degree(-1));
        Check.illegal("degree 17", () -> c.x.degree(17));
    }

    private static void coefficient() {
        Check c = new Check();
        c.line("a=@0(-7,0,6,2)");
        int[] due = {-7, 0, 6, 2};
        for (int k = 0; k < 4; k++) {
            Check.same("coefficient " + k, c.x.coefficient(0, k), due[k]);
        }
        Check.none("coefficient 4", () -> c.x.coefficient(0, 4));
        Check.none("coefficient -1", () -> c.x.coefficient(0, -1));
        Check.none("coefficient of none", () -> c.x.coefficient(1, 0));
        Check.illegal("coefficient of -1", () -> c.x.coefficient(-1, 0));
        Check.illegal("coefficient 99 of 17", () -> c.x.coefficient(17, 99));
        c.line("999999999+999999999+147483649");
        Check.same("the greatest value", c.x.coefficient(16, 0), -2147483647);
        c.line("1/(-999999999-999999999-147483649)");
        Check.same("the greatest denominator", c.x.coefficient(16, 1), 2147483647);
        Check.same("its numerator", c.x.coefficient(16, 0), 1);
    }

    private static void index() {
        Check c = new Check();
        for (int i = 0; i < 3; i++) {
            c.line("@" + i + "(1,-3,0,1)");
            Check.same("index", c.x.index(16), i);
            c.line("-@" + i + "(1,-3,0,1)");
            Check.same("index of the other sign", c.x.index(16), 2 - i);
        }
        c.line("a=#4(2)");
        Check.same("index of a root of order 4", c.x.index(0), 1);
        c.line("@3(6,-4,-5,2,1)");
        Check.same("roots of other factors do not count", c.x.index(16), 1);
        Check.none("index of none", () -> c.x.index(1));
        Check.illegal("index 17", () -> c.x.index(17));
        Check.illegal("index -1", () -> c.x.index(-1));
    }

    private static void roots() {
        Check c = new Check();
        String[] lines = {"5", "#2(2)", "#3(2)", "#2(2)+#2(3)", "#5(7)", "@0(1,-3,0,1)", "#2(2)+#3(2)", "#6(3)",
            "@0(-1,0,6,0,-5,0,1)", "@0(1,3,-6,-4,5,1,-1)"};
        int[] due = {1, 2, 1, 4, 1, 3, 2, 2, 3, 6};
        for (int i = 0; i < due.length; i++) {
            Check.same("line " + lines[i], c.line(lines[i]), 0);
            Check.same("roots of " + lines[i], c.x.roots(16), due[i]);
        }
        Check.none("roots of none", () -> c.x.roots(15));
        Check.illegal("roots 17", () -> c.x.roots(17));
        Check.illegal("roots -1", () -> c.x.roots(-1));
    }

    private static void compare() {
        Check c = new Check();
        c.line("a=#2(2)");
        c.line("b=#3(3)");
        c.line("c=-a");
        c.line("d=#2(2)");
        c.line("e=7/5");
        c.line("f=665857/470832");
        c.line("g=@1(-2,0,1)");
        c.line("h=#6(8)");
        Check.same("#2(2), #3(3)", c.x.compare(0, 1), -1);
        Check.same("#3(3), #2(2)", c.x.compare(1, 0), 1);
        Check.same("a, -a", c.x.compare(0, 2), 1);
        Check.same("-a, a", c.x.compare(2, 0), -1);
        Check.same("a, the same", c.x.compare(0, 3), 0);
        Check.same("a, the root of its polynomial", c.x.compare(6, 0), 0);
        Check.same("a, #6(8)", c.x.compare(7, 0), 0);
        Check.same("a, a", c.x.compare(0, 0), 0);
        Check.same("a, 7/5", c.x.compare(0, 4), 1);
        Check.same("a, near", c.x.compare(0, 5), -1);
        Check.same("IT", c.x.compare(16, 7), 0);
        c.line("i=@1(-29881601,-95570535,-17690237,13050346,-21647803,23302092,37770841)");
        c.line("j=123456789/100000000");
        Check.same("less by a 10^57th", c.x.compare(8, 9), -1);
        Check.same("greater by a 10^57th", c.x.compare(9, 8), 1);
        Check.none("compare with none", () -> c.x.compare(0, 15));
        Check.none("compare none", () -> c.x.compare(15, 0));
        Check.illegal("compare none with 17", () -> c.x.compare(15, 17));
        Check.illegal("compare -1 with none", () -> c.x.compare(-1, 15));
    }

    private static void floor() {
        Check c = new Check();
        c.line("a=#2(2)");
        Check.same("floor a 0", c.floor(0, 0), "1");
        Check.same("floor a 1", c.floor(0, 1), "14");
        Check.same("floor a 30", c.floor(0, 30), "1414213562373095048801688724209");
        c.line("a=-a");
        Check.same("floor -a 0", c.floor(0, 0), "-2");
        Check.same("floor -a 30", c.floor(0, 30), "-1414213562373095048801688724210");
        c.line("b=6/5");
        Check.same("floor of a fraction that ends", c.floor(1, 5), "120000");
        c.line("b=-b");
        Check.same("floor of it below 0", c.floor(1, 5), "-120000");
        Check.same("floor of it below 0, rounded", c.floor(1, 0), "-2");
        c.line("c=1/3");
        Check.same("floor of 1/3", c.floor(2, 0), "0");
        Check.same("floor of 1/3", c.floor(2, 30), "333333333333333333333333333333");
        c.line("c=-1/999999999");
        Check.same("floor a little below 0", c.floor(2, 0), "-1");
        Check.same("floor a little below 0", c.floor(2, 9), "-2");
        c.line("d=999999999+999999999+147483649");
        Check.same("floor of the greatest", c.floor(3, 30), "2147483647000000000000000000000000000000");
        c.line("d=-d");
        Check.same("floor of the least", c.floor(3, 30), "-2147483647000000000000000000000000000000");
        c.line("e=0");
        Check.same("floor of 0", c.floor(4, 30), "0");
        c.line("f=@0(-1,200000000,0,0,0,0,1)");
        Check.same("floor of the root below 0", c.floor(5, 30), "-45730505193732634640204630662695");
        c.line("f=@1(-1,200000000,0,0,0,0,1)");
        Check.same("floor next to 1/200000000", c.floor(5, 9), "4");
        Check.same("floor next to 1/200000000", c.floor(5, 30), "4999999999999999999999");
        c.line("g=@1(-29881601,-95570535,-17690237,13050346,-21647803,23302092,37770841)");
        Check.same("floor a 10^57th below 1.23456789", c.floor(6, 8), "123456788");
        Check.same("floor a 10^57th below 1.23456789", c.floor(6, 30), "1234567889999999999999999999999");
        c.line("h=@1(-13494073,60052447,101512373,82380733,-98774662,83018575,-23505071)");
        Check.same("floor a 10^58th above 2.71828183", c.floor(7, 30), "2718281830000000000000000000000");
        Check.illegal("floor 31", () -> c.x.floor(0, 31));
        Check.illegal("floor -1", () -> c.x.floor(0, -1));
        Check.illegal("floor of none with 31", () -> c.x.floor(15, 31));
        Check.illegal("floor 17", () -> c.x.floor(17, 1));
        Check.illegal("floor name -1", () -> c.x.floor(-1, 1));
        Check.none("floor of none", () -> c.x.floor(15, 1));
    }

    private static void write() {
        Check c = new Check();
        Check.same("write 0", c.write(16), "[0,1]#0");
        c.works("a=#2(2)-3", "[7,6,1]#1");
        c.works("@2(1,3,-6,-4,5,1,-1)", "[-1,-3,6,4,-5,-1,1]#2");
        c.works("@0(-999999999,-999999998,-999999997,-999999996,-999999995,-999999994,999999993)",
            "[-999999999,-999999998,-999999997,-999999996,-999999995,-999999994,999999993]#0");
        Check.same("write a", c.write(0), "[7,6,1]#1");
        Check.none("write none", () -> c.x.write(1));
        Check.illegal("write 17", () -> c.x.write(17));
        Check.illegal("write -1", () -> c.x.write(-1));
    }

    private static void out() {
        Check c = new Check();
        Check.none("out of nothing", () -> c.x.out(0));
        c.line("12345678");
        c.x.floor(16, 2);
        Check.same("out 0", c.x.out(0), 0x3837363534333231L);
        Check.same("out 1", c.x.out(1), 0x3038373635343332L);
        Check.same("out 2", c.x.out(2), 0x3030383736353433L);
        Check.same("out 3", c.x.out(3), 0x0030303837363534L);
        Check.same("out 9", c.x.out(9), 0x30L);
        Check.none("out 10", () -> c.x.out(10));
        Check.none("out -1", () -> c.x.out(-1));
        Check.none("out most", () -> c.x.out(Integer.MAX_VALUE));
        Check.none("out least", () -> c.x.out(Integer.MIN_VALUE));
        c.line("5");
        c.x.floor(16, 0);
        Check.same("a shorter text", c.x.out(0), 0x35L);
        Check.none("no byte of the longer one is left", () -> c.x.out(1));
    }

    private static void drop() {
        Check c = new Check();
        c.line("a=1");
        c.line("p=a");
        Check.same("drop a", c.x.drop(0), true);
        Check.same("drop a again", c.x.drop(0), false);
        Check.same("degree a", c.x.degree(0), 0);
        Check.same("names", c.x.look(0), 1);
        Check.same("a has none in a line", c.line("a"), -2);
        Check.same("drop p", c.x.drop(15), true);
        Check.same("IT stays", c.write(16), "[-1,1]#0");
        Check.illegal("drop IT", () -> c.x.drop(16));
        Check.illegal("drop -1", () -> c.x.drop(-1));
        Check.same("a again", c.line("a=2"), 0);
        Check.same("a has it", c.write(0), "[-2,1]#0");
    }

    private static void throwingCallsChangeNothing() {
        Check c = new Check();
        c.line("a=#2(7)");
        c.floor(0, 3);
        c.feed("1+");
        Check.illegal("look 9", () -> c.x.look(9));
        Check.illegal("feed 0", () -> c.x.feed(0, 49));
        Check.none("write none", () -> c.x.write(3));
        Check.none("floor none", () -> c.x.floor(3, 3));
        Check.illegal("floor 31", () -> c.x.floor(0, 31));
        Check.illegal("write 17", () -> c.x.write(17));
        Check.illegal("drop 16", () -> c.x.drop(16));
        Check.same("OUT is left", c.text(), "2645");
        Check.same("tape is left", c.x.look(2), 2);
        Check.same("names are left", c.x.look(0), 1);
        c.feed("1");
        Check.same("the tape goes on", c.x.line(), 0);
        Check.same("its line", c.write(16), "[-2,1]#0");
    }

    private static void objectsAreApart() {
        Check c = new Check();
        Check d = new Check();
        c.line("a=#2(2)");
        d.feed("5");
        Check.same("a of another object", d.x.degree(0), 0);
        Check.same("tape of another object", c.x.look(2), 0);
        Check.same("the other object's line", d.x.line(), 0);
        Check.same("IT", c.write(16), "[-2,0,1]#1");
        try {
            d.x.index(0);
            Check.same("index of none", "nothing", "NoSuchElementException");
        } catch (NoSuchElementException e) {
            Check.same("index of none", d.x.look(0), 0);
        }
    }
}
