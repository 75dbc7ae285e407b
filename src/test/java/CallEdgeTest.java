/** The edges of the calls that the document names, a test for each sentence, which stands above it. */
public final class CallEdgeTest {
    private static final int LEAST = Integer.MIN_VALUE;
    private static final int MOST = Integer.MAX_VALUE;
    private static final int[] NO_NAMES = {LEAST, -17, -1, 17, 18, 32, 256, 65536, MOST};

    public static void main(String[] args) {
        newObject();
        newObjectThrows();
        countOfBytes();
        fullTape();
        bytesOfV();
        whichOfTwoExceptions();
        lineOfAnEmptyTape();
        lineUsesTheTapeUp();
        otherWhats();
        placeOfTheLatestLine();
        bytesOfTapeAndOut();
        linesDone();
        namesThatAreNone();
        namesWithoutValue();
        itInAllCalls();
        degrees();
        coefficients();
        indexesAndRoots();
        compareLooksAtBothNames();
        compareTells();
        placesOfFloor();
        floorsBelowZero();
        textsOfWholeNumbers();
        written();
        bytesOfOut();
        drops();
        throwingCallsChangeNothing();
        calls();
        Check.end();
    }

    /** "RootAlgebra(): No names have values; IT is 0." */
    private static void newObject() {
        Check c = new Check();
        for (int name = 0; name < 16; name++) {
            Check.same("degree of name " + name, c.x.degree(name), 0);
            Check.same("drop of name " + name, c.x.drop(name), false);
        }
        int[] looks = {0, -1, 0, 0, 0};
        for (int what = 0; what < 5; what++) {
            Check.same("look " + what, c.x.look(what), looks[what]);
        }
        Check.same("degree of IT", c.x.degree(16), 1);
        Check.same("coefficient 0 of IT", c.x.coefficient(16, 0), 0);
        Check.same("coefficient 1 of IT", c.x.coefficient(16, 1), 1);
        Check.same("index of IT", c.x.index(16), 0);
        Check.same("roots of IT", c.x.roots(16), 1);
        Check.same("IT and IT", c.x.compare(16, 16), 0);
        Check.same("IT in whole parts", c.floor(16, 0), "0");
        Check.same("IT in 30 places", c.floor(16, 30), "0");
        Check.same("IT written", c.write(16), "[0,1]#0");
        Check.same("line of a new object", new Check().x.line(), -1);
        Check.same("feed of a new object", new Check().x.feed(8, 0), 8);
    }

    /** "No names have values": what throws on a new object */
    private static void newObjectThrows() {
        Check c = new Check();
        for (int name = 0; name < 16; name++) {
            int n = name;
            Check.none("coefficient of " + n, () -> c.x.coefficient(n, 0));
            Check.none("index of " + n, () -> c.x.index(n));
            Check.none("roots of " + n, () -> c.x.roots(n));
            Check.none("compare of " + n, () -> c.x.compare(n, 16));
            Check.none("compare with " + n, () -> c.x.compare(16, n));
            Check.none("floor of " + n, () -> c.x.floor(n, 0));
            Check.none("write of " + n, () -> c.x.write(n));
        }
        Check.none("out", () -> c.x.out(0));
    }

    /** "Throws IllegalArgumentException when n is not 1 .. 8" */
    private static void countOfBytes() {
        Check c = new Check();
        for (int n : new int[] {LEAST, -8, -1, 0, 9, 10, 16, 264, MOST}) {
            Check.illegal("feed " + n, () -> c.x.feed(n, 49));
            Check.same("tape", c.x.look(2), 0);
        }
        int all = 0;
        for (int n = 1; n <= 8; n++) {
            all += n;
            Check.same("feed " + n, c.x.feed(n, 0x2020202020202020L), all);
        }
    }

    /** "IllegalStateException when it would have more than 400" */
    private static void fullTape() {
        for (int n = 1; n <= 8; n++) {
            Check c = new Check();
            int bytes = n;
            for (int i = 0; i < 400 / n; i++) {
                Check.same("feed", c.x.feed(n, 0x2020202020202020L), n * (i + 1));
            }
            int left = 400 % n;
            Check.same("feed too much", Check.thrown(() -> c.x.feed(bytes, 0)), "IllegalStateException");
            Check.same("feed one too much", Check.thrown(() -> c.x.feed(left + 1, 0)), "IllegalStateException");
            Check.same("tape", c.x.look(2), 400 - left);
            if (left > 0) {
                Check.same("the last bytes", c.x.feed(left, 0x2020202020202020L), 400);
                Check.same("one more", Check.thrown(() -> c.x.feed(1, 0)), "IllegalStateException");
            }
            Check.same("blanks", c.x.line(), -1);
            Check.same("place", c.x.look(1), 400);
            Check.same("the tape is empty then", c.x.feed(1, 49), 1);
        }
    }

    /** "The n lowest bytes of v, lowest first": also of a v below 0 */
    private static void bytesOfV() {
        Check c = new Check();
        c.x.feed(3, 0xFFFFFFFFFF322B31L);
        Check.same("1+2", c.x.line(), 0);
        Check.same("1+2", c.write(16), "[-3,1]#0");
        c.x.feed(1, -1);
        Check.same("byte 255", c.x.line(), -1);
        Check.same("its place", c.x.look(1), 0);
        c.x.feed(8, 0xB120202020202031L);
        Check.same("byte 177 at the end", c.x.line(), -1);
        Check.same("its place", c.x.look(1), 7);
        c.x.feed(8, Long.MIN_VALUE);
        Check.same("bytes 0", c.x.line(), -1);
        Check.same("their place", c.x.look(1), 0);
        c.x.feed(1, 0x3231L);
        c.x.feed(8, 0x3938373635343332L);
        Check.same("123456789", c.x.line(), 0);
        Check.same("123456789", c.write(16), "[-123456789,1]#0");
    }

    /** "Of several exceptions the first one told is thrown" */
    private static void whichOfTwoExceptions() {
        Check c = new Check();
        c.feed(" ".repeat(400));
        Check.illegal("feed 9 to a full tape", () -> c.x.feed(9, 0));
        Check.illegal("feed 0 to a full tape", () -> c.x.feed(0, 0));
        Check.illegal("coefficient -1 of no name", () -> c.x.coefficient(17, -1));
        Check.illegal("coefficient 9 of no name", () -> c.x.coefficient(-1, 9));
        Check.illegal("floor 31 of a name without a value", () -> c.x.floor(0, 31));
        Check.illegal("floor -1 of a name without a value", () -> c.x.floor(0, -1));
        Check.illegal("floor 31 of no name", () -> c.x.floor(17, 31));
        Check.illegal("compare of a name without a value and no name", () -> c.x.compare(0, 17));
        Check.illegal("compare of no name and a name without a value", () -> c.x.compare(-1, 0));
    }

    /** "The tape .. is a line": an empty one is none */
    private static void lineOfAnEmptyTape() {
        Check c = new Check();
        Check.same("empty", c.x.line(), -1);
        Check.same("place", c.x.look(1), 0);
        c.line("5");
        Check.same("empty again", c.x.line(), -1);
        Check.same("IT", c.write(16), "[-5,1]#0");
        Check.same("lines", c.x.look(4), 1);
    }

    /** "The tape, which is used up in any case" */
    private static void lineUsesTheTapeUp() {
        String[] lines = {"a=1", "1+", "b", "46341*46341", "#4(2)+#4(2)", "1/0", "#2(-1)", "@0(0)", " ".repeat(400)};
        int[] answers = {0, -1, -2, -3, -4, -5, -6, -7, -1};
        Check c = new Check();
        for (int i = 0; i < lines.length; i++) {
            Check.same(lines[i], c.line(lines[i]), answers[i]);
            Check.same("tape behind " + lines[i], c.x.look(2), 0);
        }
        Check.same("a feed begins anew", c.x.feed(1, 50), 1);
        Check.same("2", c.x.line(), 0);
        Check.same("2", c.write(16), "[-2,1]#0");
    }

    /** "Throws IllegalArgumentException for another what." */
    private static void otherWhats() {
        Check c = new Check();
        for (int what : new int[] {LEAST, -2, -1, 5, 6, 16, 256, MOST}) {
            Check.illegal("look " + what, () -> c.x.look(what));
        }
    }

    /** "1 the place of the latest line that was none (-1 before; it stays behind other lines)" */
    private static void placeOfTheLatestLine() {
        Check c = new Check();
        c.line("5");
        c.line("1/0");
        c.line("a");
        Check.same("before", c.x.look(1), -1);
        c.line("12+");
        Check.same("place", c.x.look(1), 3);
        c.line("5");
        c.line("1/0");
        c.line("@0(1)");
        Check.same("behind other lines", c.x.look(1), 3);
        c.line("x");
        Check.same("the latest one", c.x.look(1), 0);
        c.feed("77 7");
        Check.same("ahead of the line", c.x.look(1), 0);
        c.x.line();
        Check.same("behind the line", c.x.look(1), 3);
    }

    /** "2 the bytes of the tape, 3 those of OUT (which a line leaves as it is)" */
    private static void bytesOfTapeAndOut() {
        Check c = new Check();
        c.feed("12345678901");
        Check.same("tape", c.x.look(2), 11);
        c.x.write(16);
        Check.same("tape behind write", c.x.look(2), 11);
        Check.same("OUT", c.x.look(3), 7);
        c.x.line();
        Check.same("OUT behind a line that is none", c.text(), "[0,1]#0");
        c.line("a=99");
        Check.same("OUT behind a line", c.text(), "[0,1]#0");
        Check.same("OUT's bytes behind a line", c.x.look(3), 7);
        c.x.floor(0, 0);
        Check.same("OUT behind floor", c.x.look(3), 2);
        c.x.drop(0);
        Check.same("OUT behind drop", c.text(), "99");
    }

    /** "4 lines with the answer 0", "0 how many names have a value (IT not counted)" */
    private static void linesDone() {
        Check c = new Check();
        String[] lines = {"1", "a=2", "1+", "1/0", "a=3", "b?1", "c=a?1", "0", "c=c"};
        int[] done = {1, 2, 2, 2, 3, 3, 4, 5, 6};
        int[] names = {0, 1, 1, 1, 1, 1, 2, 2, 2};
        for (int i = 0; i < lines.length; i++) {
            c.line(lines[i]);
            Check.same("done behind " + lines[i], c.x.look(4), done[i]);
            Check.same("names behind " + lines[i], c.x.look(0), names[i]);
        }
        c.x.drop(2);
        Check.same("names behind drop", c.x.look(0), 1);
        Check.same("done behind drop", c.x.look(4), 6);
    }

    /** "Throws IllegalArgumentException when there is no such name (0 .. 16 here and in all calls but drop)." */
    private static void namesThatAreNone() {
        Check c = new Check();
        c.line("a=#2(2)");
        for (int name : NO_NAMES) {
            Check.illegal("degree of " + name, () -> c.x.degree(name));
            Check.illegal("coefficient of " + name, () -> c.x.coefficient(name, 0));
            Check.illegal("index of " + name, () -> c.x.index(name));
            Check.illegal("roots of " + name, () -> c.x.roots(name));
            Check.illegal("compare of " + name, () -> c.x.compare(name, 0));
            Check.illegal("compare with " + name, () -> c.x.compare(0, name));
            Check.illegal("floor of " + name, () -> c.x.floor(name, 0));
            Check.illegal("write of " + name, () -> c.x.write(name));
        }
    }

    /** "NoSuchElementException when it has none (as the calls below do that tell of a value ..)" */
    private static void namesWithoutValue() {
        Check c = new Check();
        c.line("b=1");
        for (int name : new int[] {0, 2, 15}) {
            Check.same("degree of " + name, c.x.degree(name), 0);
            Check.none("coefficient of " + name, () -> c.x.coefficient(name, 0));
            Check.none("index of " + name, () -> c.x.index(name));
            Check.none("roots of " + name, () -> c.x.roots(name));
            Check.none("compare of " + name, () -> c.x.compare(name, 1));
            Check.none("compare with " + name, () -> c.x.compare(1, name));
            Check.none("compare with itself " + name, () -> c.x.compare(name, name));
            Check.none("floor of " + name, () -> c.x.floor(name, 30));
            Check.none("write of " + name, () -> c.x.write(name));
        }
    }

    /** "name 0 .. 15, or 16 for IT" */
    private static void itInAllCalls() {
        Check c = new Check();
        c.line("p=7");
        c.line("@2(1,-3,0,1)");
        Check.same("degree", c.x.degree(16), 3);
        Check.same("degree of name 15", c.x.degree(15), 1);
        Check.same("coefficient", c.x.coefficient(16, 1), -3);
        Check.same("index", c.x.index(16), 2);
        Check.same("roots", c.x.roots(16), 3);
        Check.same("compare", c.x.compare(16, 15), -1);
        Check.same("compare the other way", c.x.compare(15, 16), 1);
        Check.same("floor", c.floor(16, 5), "153208");
        Check.same("write", c.write(16), "[1,-3,0,1]#2");
        c.x.drop(15);
        Check.same("IT behind drop", c.write(16), "[1,-3,0,1]#2");
    }

    /** "The degree of a value ..; 0 when it has none." */
    private static void degrees() {
        Check c = new Check();
        for (int k = 1; k <= 6; k++) {
            c.line("a=@0(-2" + ",0".repeat(k - 1) + ",1)");
            Check.same("degree " + k, c.x.degree(0), k);
        }
        c.line("a=0");
        Check.same("degree of 0", c.x.degree(0), 1);
        c.x.drop(0);
        Check.same("degree behind drop", c.x.degree(0), 0);
    }

    /** "NoSuchElementException when it has no value, or k is not 0 .. its degree." */
    private static void coefficients() {
        Check c = new Check();
        c.line("a=@1(-1,-429496729,1)*5+1");
        int[] due = {2147483621, -2147483647, 1};
        for (int k = 0; k < 3; k++) {
            Check.same("coefficient " + k, c.x.coefficient(0, k), due[k]);
        }
        for (int k : new int[] {LEAST, -1, 3, 6, 7, MOST}) {
            Check.none("coefficient " + k, () -> c.x.coefficient(0, k));
        }
        c.line("a=#6(1/(999999999+999999999+147483649))");
        Check.same("coefficient 6", c.x.coefficient(0, 6), 2147483647);
        Check.same("coefficient 5", c.x.coefficient(0, 5), 0);
        Check.none("coefficient 7", () -> c.x.coefficient(0, 7));
        c.line("a=0");
        Check.same("coefficient 0 of 0", c.x.coefficient(0, 0), 0);
        Check.same("coefficient 1 of 0", c.x.coefficient(0, 1), 1);
        Check.none("coefficient 2 of 0", () -> c.x.coefficient(0, 2));
        c.x.drop(0);
        Check.none("coefficient 0 of none", () -> c.x.coefficient(0, 0));
    }

    /** "The index of a value.", "How many real roots its polynomial has." */
    private static void indexesAndRoots() {
        Check c = new Check();
        c.line("a=-#2(2)");
        Check.same("least", c.x.index(0), 0);
        Check.same("roots", c.x.roots(0), 2);
        c.line("a=#2(2)");
        Check.same("greatest", c.x.index(0), 1);
        c.line("a=#5(-7)");
        Check.same("only one", c.x.index(0), 0);
        Check.same("only one", c.x.roots(0), 1);
        c.line("a=0");
        Check.same("index of 0", c.x.index(0), 0);
        Check.same("roots of 0", c.x.roots(0), 1);
        c.line("a=@5(1,3,-6,-4,5,1,-1)");
        Check.same("index 5", c.x.index(0), 5);
        Check.same("roots 6", c.x.roots(0), 6);
    }

    /** "with two names both are looked at first as names" */
    private static void compareLooksAtBothNames() {
        Check c = new Check();
        c.line("a=1");
        for (int name : NO_NAMES) {
            Check.illegal("compare 1 with " + name, () -> c.x.compare(1, name));
            Check.illegal("compare " + name + " with 1", () -> c.x.compare(name, 1));
            Check.illegal("compare " + name + " with itself", () -> c.x.compare(name, name));
        }
        Check.none("compare 0 with 1", () -> c.x.compare(0, 1));
        Check.none("compare 1 with 0", () -> c.x.compare(1, 0));
        Check.none("compare 1 with 2", () -> c.x.compare(1, 2));
    }

    /** "-1, 0, 1: one value is less than, the same as, greater than another one." */
    private static void compareTells() {
        Check c = new Check();
        c.line("a=-#2(2)");
        c.line("b=0");
        c.line("c=#2(2)");
        c.line("d=2/#2(2)");
        c.line("e=-999999999-999999999-147483649");
        c.line("f=-e");
        c.line("g=1/f");
        int[][] rows = {{0, 1, -1}, {1, 2, -1}, {0, 2, -1}, {2, 3, 0}, {0, 0, 0}, {1, 1, 0}, {4, 5, -1}, {4, 0, -1},
            {1, 6, -1}, {6, 2, -1}, {4, 4, 0}, {16, 6, 0}};
        for (int[] row : rows) {
            Check.same("compare", c.x.compare(row[0], row[1]), row[2]);
            Check.same("compare the other way", c.x.compare(row[1], row[0]), -row[2]);
        }
    }

    /** "Throws IllegalArgumentException also when n is not 0 .. 30." */
    private static void placesOfFloor() {
        Check c = new Check();
        c.line("a=#2(2)");
        for (int n : new int[] {LEAST, -30, -1, 31, 32, 256, MOST}) {
            Check.illegal("floor with " + n, () -> c.x.floor(0, n));
        }
        String all = "1414213562373095048801688724209";
        for (int n = 0; n <= 30; n++) {
            Check.same("floor with " + n, c.floor(0, n), all.substring(0, n + 1));
        }
    }

    /** "the greatest whole number that is not above the value times 10 to the n" */
    private static void floorsBelowZero() {
        Check c = new Check();
        c.line("a=-#2(2)");
        Check.same("-#2(2)", c.floor(0, 0), "-2");
        Check.same("-#2(2)", c.floor(0, 1), "-15");
        c.line("a=-5");
        Check.same("-5", c.floor(0, 0), "-5");
        Check.same("-5", c.floor(0, 2), "-500");
        c.line("a=-1/2");
        Check.same("-1/2", c.floor(0, 0), "-1");
        Check.same("-1/2", c.floor(0, 1), "-5");
        c.line("a=-#6(1/(999999999+999999999+147483649))/9");
        Check.same("a little below 0", c.floor(0, 0), "-1");
        c.line("a=#2(1/999999999)");
        Check.same("a little above 0", c.floor(0, 0), "0");
        Check.same("a little above 0", c.floor(0, 4), "0");
        Check.same("a little above 0", c.floor(0, 5), "3");
        c.line("a=1/(999999999+999999999+147483649)");
        Check.same("the least above 0", c.floor(0, 9), "0");
        Check.same("the least above 0", c.floor(0, 10), "4");
        c.line("a=-a");
        Check.same("the greatest below 0", c.floor(0, 9), "-1");
        Check.same("the greatest below 0", c.floor(0, 10), "-5");
    }

    /** "A TEXT of a whole number is its digits, - ahead if it is below 0 .. (which has no -)." */
    private static void textsOfWholeNumbers() {
        Check c = new Check();
        String[] lines = {"0", "-0", "1", "-1", "9", "10", "-10", "100", "999999999", "-999999999", "1000*1000*1000"};
        String[] texts = {"0", "0", "1", "-1", "9", "10", "-10", "100", "999999999", "-999999999", "1000000000"};
        for (int i = 0; i < lines.length; i++) {
            c.line(lines[i]);
            Check.same("text of " + lines[i], c.floor(16, 0), texts[i]);
            Check.same("text of " + lines[i] + " times 10 to the 30", c.floor(16, 30),
                texts[i].equals("0") ? "0" : texts[i] + "0".repeat(30));
        }
        c.line("1/999999999");
        Check.same("text of a small number", c.floor(16, 8), "0");
        Check.same("text of a small number", c.floor(16, 18), "1000000001");
    }

    /** "OUT becomes [, the coefficients' texts from the lowest on with , between, ], # and the index" */
    private static void written() {
        Check c = new Check();
        Check.same("0", c.write(16), "[0,1]#0");
        c.line("-1/999999999");
        Check.same("a fraction below 0", c.write(16), "[1,999999999]#0");
        c.line("@5(1,3,-6,-4,5,1,-1)");
        Check.same("degree 6", c.write(16), "[-1,-3,6,4,-5,-1,1]#5");
        c.line("-(@1(-1,-429496729,1)*5+1)");
        Check.same("great ones", c.write(16), "[2147483621,2147483647,1]#0");
        Check.same("a shorter text", c.floor(16, 0), "-2147483647");
        c.line("@0(-999999999,-999999998,-999999997,-999999996,-999999995,-999999994,999999993)");
        Check.same("bytes", c.x.write(16), 79);
    }

    /** "Eight bytes of OUT from k on, lowest first (0 behind its end). Throws .. when there is no byte k." */
    private static void bytesOfOut() {
        Check c = new Check();
        Check.none("byte 0 of an empty OUT", () -> c.x.out(0));
        Check.none("byte -1 of an empty OUT", () -> c.x.out(-1));
        c.line("123456789");
        for (int n = 0; n <= 8; n++) {
            String text = c.floor(16, n);
            for (int k = 0; k < text.length(); k++) {
                long due = 0;
                for (int i = 0; i < 8 && k + i < text.length(); i++) {
                    due |= (long) text.charAt(k + i) << (8 * i);
                }
                Check.same("out " + k + " of " + text, c.x.out(k), due);
            }
            for (int k : new int[] {LEAST, -8, -1, text.length(), text.length() + 1, MOST}) {
                Check.none("out " + k + " of " + text, () -> c.x.out(k));
            }
        }
        c.line("7");
        c.x.floor(16, 0);
        Check.same("the only byte", c.x.out(0), 0x37L);
        Check.none("a byte of the longer text before", () -> c.x.out(1));
    }

    /** "whether it had one. Throws IllegalArgumentException alone, when it is not 0 .. 15." */
    private static void drops() {
        Check c = new Check();
        for (int name = 0; name < 16; name++) {
            c.line((char) ('a' + name) + "=" + name);
        }
        for (int name : NO_NAMES) {
            Check.illegal("drop " + name, () -> c.x.drop(name));
        }
        Check.illegal("drop IT", () -> c.x.drop(16));
        Check.same("names", c.x.look(0), 16);
        for (int name = 0; name < 16; name++) {
            Check.same("drop " + name, c.x.drop(name), true);
            Check.same("drop again " + name, c.x.drop(name), false);
            Check.same("names", c.x.look(0), 15 - name);
            Check.same("degree", c.x.degree(name), 0);
        }
        Check.same("IT", c.write(16), "[-15,1]#0");
        c.line("a=6");
        Check.same("drop a that has one again", c.x.drop(0), true);
    }

    /** "a call that throws changes nothing" */
    private static void throwingCallsChangeNothing() {
        Check c = new Check();
        c.line("b)");
        c.line("a=#2(7)");
        c.floor(0, 3);
        c.feed("1+" + " ".repeat(398));
        Check.thrown(() -> c.x.feed(1, 49));
        Check.thrown(() -> c.x.feed(0, 49));
        Check.thrown(() -> c.x.feed(9, 49));
        Check.thrown(() -> c.x.look(5));
        Check.thrown(() -> c.x.degree(17));
        Check.thrown(() -> c.x.coefficient(0, 3));
        Check.thrown(() -> c.x.index(1));
        Check.thrown(() -> c.x.roots(1));
        Check.thrown(() -> c.x.compare(0, 1));
        Check.thrown(() -> c.x.floor(1, 3));
        Check.thrown(() -> c.x.floor(0, 31));
        Check.thrown(() -> c.x.write(1));
        Check.thrown(() -> c.x.write(17));
        Check.thrown(() -> c.x.out(4));
        Check.thrown(() -> c.x.drop(16));
        int[] looks = {1, 1, 400, 4, 1};
        for (int what = 0; what < 5; what++) {
            Check.same("look " + what, c.x.look(what), looks[what]);
        }
        Check.same("OUT", c.text(), "2645");
        Check.same("a", c.write(0), "[-7,0,1]#1");
        Check.same("the line", c.x.line(), -1);
        Check.same("its place", c.x.look(1), 400);
    }

    /** "An object is used for at most 512 calls after it has been made": each of them answers as due */
    private static void calls() {
        RootAlgebra x = new RootAlgebra();
        for (int i = 0; i < 170; i++) {
            Check.same("feed of round " + i, x.feed(7, 0x29322832233D61L), 7);
            Check.same("line of round " + i, x.line(), 0);
            Check.same("write of round " + i, x.write(0), 10);
        }
        Check.same("call 511", x.look(4), 170);
        Check.same("call 512", x.out(0), 0x5D312C302C322D5BL);
        RootAlgebra y = new RootAlgebra();
        for (int i = 0; i < 511; i++) {
            Check.same("an empty line", y.line(), -1);
        }
        Check.same("call 512", y.degree(16), 1);
        RootAlgebra z = new RootAlgebra();
        for (int i = 0; i < 511; i++) {
            Check.illegal("a call that throws", () -> z.look(5));
        }
        Check.same("call 512", z.feed(8, 1), 8);
    }
}
