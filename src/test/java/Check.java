/** What the tests of the project share: a fresh object, lines as texts, and the count of wrong answers. */
final class Check {
    interface Call {
        void make();
    }

    private static int wrong;
    final RootAlgebra x = new RootAlgebra();

    static void same(String what, Object got, Object want) {
        if (!got.equals(want)) {
            wrong++;
            System.out.println(what + " answered " + got + ", due is " + want);
        }
    }

    static void end() {
        if (wrong != 0) {
            System.out.println(wrong + " answers are not as due");
            System.exit(1);
        }
    }

    static void illegal(String what, Call call) {
        same(what, thrown(call), "IllegalArgumentException");
    }

    static void none(String what, Call call) {
        same(what, thrown(call), "NoSuchElementException");
    }

    static String thrown(Call call) {
        try {
            call.make();
        } catch (RuntimeException e) {
            return e.getClass().getSimpleName();
        }
        return "nothing";
    }

    void feed(String line) {
        for (int i = 0; i < line.length(); i += 8) {
            int n = Math.min(8, line.length() - i);
            long v = 0;
            for (int j = 0; j < n; j++) {
                v |= (long) line.charAt(i + j) << (8 * j);
            }
            x.feed(n, v);
        }
    }

    int line(String line) {
        feed(line);
        return x.line();
    }

    /** OUT as a text, read through look and out. */
    String text() {
        int length = x.look(3);
        StringBuilder b = new StringBuilder();
        for (int k = 0; k < length; k += 8) {
            long v = x.out(k);
            for (int i = 0; i < 8 && k + i < length; i++) {
                b.append((char) (v >>> (8 * i) & 0xFF));
            }
        }
        return b.toString();
    }

    String write(int name) {
        same("how many bytes write(" + name + ") tells", x.write(name), x.look(3));
        return text();
    }

    String floor(int name, int n) {
        same("how many bytes floor(" + name + ", " + n + ") tells", x.floor(name, n), x.look(3));
        return text();
    }

    /** Works a line, and looks at what it answers and at IT. */
    void works(String line, String want) {
        same("line " + line, line(line), 0);
        same("value of " + line, write(16), want);
    }

    /** An answer below 0 leaves IT and the count of lines as they were. */
    void fails(String line, int answer) {
        int degree = x.degree(16);
        int lowest = x.coefficient(16, 0);
        int done = x.look(4);
        same("line " + line, line(line), answer);
        same("degree of IT behind " + line, x.degree(16), degree);
        same("coefficient of IT behind " + line, x.coefficient(16, 0), lowest);
        same("lines done behind " + line, x.look(4), done);
    }

    /** A line that is none, and its place, on a fresh object. */
    static void breaks(String line, int place) {
        Check c = new Check();
        c.line("7");
        c.fails(line, -1);
        same("place of " + line, c.x.look(1), place);
        same("names behind " + line, c.x.look(0), 0);
    }

    /** Rows of a call and its answer, "new" for a fresh object. */
    static void rows(String[] rows) {
        Check c = new Check();
        for (String row : rows) {
            if (row.equals("new")) {
                c = new Check();
                continue;
            }
            int at = row.indexOf(" > ");
            String call = row.substring(0, at);
            same(call, c.answer(call), row.substring(at + 3));
        }
    }

    private String answer(String call) {
        String[] words = call.split(" ");
        if (words[0].equals("floor")) {
            return floor(Integer.parseInt(words[1]), Integer.parseInt(words[2]));
        }
        if (words[0].equals("compare")) {
            return String.valueOf(x.compare(Integer.parseInt(words[1]), Integer.parseInt(words[2])));
        }
        int answer = line(call);
        return answer < 0 ? String.valueOf(answer) : answer + " " + write(16) + " " + x.roots(16);
    }
}
