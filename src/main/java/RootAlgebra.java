import java.util.NoSuchElementException;

/**
 * A desk for real algebraic numbers. Lines of a small language come over a tape; every result is held as its
 * polynomial of least degree and the number of the root that it is.
 *
 * How a result is found: a polynomial that has it as a root is built from those of the two numbers, its factors are
 * searched modulo a power of a prime, and the factor that has the result as a root is told by binary digits.
 *
 * Every bound (of primes, of binary digits, of halvings, of a row's room) is above what any line can need; the reasons
 * stand at the classes. They lean on Mahler's measure M of a polynomial, which is its highest coefficient times all its
 * roots that are above 1 in magnitude: M is below 2^32.5 for a value and below 2^268 for the polynomial of all sums or
 * products of two values' roots; a divisor of degree n has coefficients below 2^n M; and as a resultant or discriminant
 * that is not 0 is at least 1, a large M alone lets its parts be small.
 */
public final class RootAlgebra {
    private static final int NAMES = 16;
    private static final int IT = 16;
    private static final int TAPE = 400;
    private static final int TEXT = 128;
    private static final int BILLION = 1000000000;
    private static final int MOST_PLACES = 30;
    private static final int HIGHEST = 6;
    private static final int LIMIT = 2147483647;

    private static final int NO_LINE = -1;
    private static final int NAME_WITHOUT_VALUE = -2;
    private static final int NO_VALUE = -3;
    private static final int TOO_HIGH = -4;
    private static final int BY_ZERO = -5;
    private static final int EVEN_BELOW_ZERO = -6;
    private static final int NO_ROOT = -7;

    private final byte[] tape;
    private final byte[] text;
    private final byte[] digits;
    private final Big rest;
    private final Value[] values;
    private final Reader reader;
    private final Desk desk;
    private int fed;
    private int written;
    private int place;
    private int done;

    public RootAlgebra() {
        tape = new byte[TAPE];
        text = new byte[TEXT];
        digits = new byte[TEXT];
        rest = new Big(8);
        values = new Value[NAMES + 1];
        for (int i = 0; i <= NAMES; i++) {
            values[i] = new Value();
        }
        values[IT].setFraction(0, 1);
        reader = new Reader(tape);
        desk = new Desk();
        place = -1;
    }

    public int feed(int n, long v) throws IllegalArgumentException, IllegalStateException {
        if (n < 1 || n > 8) {
            throw new IllegalArgumentException();
        }
        if (fed + n > TAPE) {
            throw new IllegalStateException();
        }
        for (int i = 0; i < n; i++) {
            tape[fed + i] = (byte) (v >>> (8 * i));
        }
        fed += n;
        return fed;
    }

    public int line() {
        int length = fed;
        fed = 0;
        if (!reader.reads(length)) {
            place = reader.at;
            return NO_LINE;
        }
        desk.start();
        int answer = 0;
        for (int i = 0; i < Reader.ROOM && answer == 0 && desk.at < reader.size; i++) {
            answer = desk.step(reader.code, reader.size, values);
            if (answer == Desk.TO_REDUCE) {
                answer = desk.reduce();
            }
            if (answer == Desk.TO_CHOOSE) {
                answer = desk.choose();
            }
            if (answer == Desk.TO_SEARCH) {
                answer = desk.search();
            }
            if (answer == Desk.TO_SETTLE) {
                answer = desk.settle();
            }
        }
        if (answer < 0) {
            return answer;
        }
        if (reader.target >= 0 && reader.target < NAMES) {
            values[reader.target].copy(desk.result());
        }
        values[IT].copy(desk.result());
        done++;
        return 0;
    }

    public int look(int what) throws IllegalArgumentException {
        switch (what) {
            case 0:
                return namesWithValue();
            case 1:
                return place;
            case 2:
                return fed;
            case 3:
                return written;
            case 4:
                return done;
            default:
                throw new IllegalArgumentException();
        }
    }

    public int degree(int name) throws IllegalArgumentException {
        if (!isName(name)) {
            throw new IllegalArgumentException();
        }
        return values[name].degree;
    }

    public int coefficient(int name, int k) throws IllegalArgumentException, NoSuchElementException {
        if (!isName(name)) {
            throw new IllegalArgumentException();
        }
        Value v = values[name];
        if (v.degree == 0 || k < 0 || k > v.degree) {
            throw new NoSuchElementException();
        }
        return v.c[k];
    }

    public int index(int name) throws IllegalArgumentException, NoSuchElementException {
        if (!isName(name)) {
            throw new IllegalArgumentException();
        }
        if (values[name].degree == 0) {
            throw new NoSuchElementException();
        }
        return values[name].index;
    }

    public int roots(int name) throws IllegalArgumentException, NoSuchElementException {
        if (!isName(name)) {
            throw new IllegalArgumentException();
        }
        if (values[name].degree == 0) {
            throw new NoSuchElementException();
        }
        return values[name].roots;
    }

    public int compare(int name, int other) throws IllegalArgumentException, NoSuchElementException {
        if (!isName(name) || !isName(other)) {
            throw new IllegalArgumentException();
        }
        if (values[name].degree == 0 || values[other].degree == 0) {
            throw new NoSuchElementException();
        }
        return desk.gauge.order(values[name], values[other]);
    }

    public int floor(int name, int n) throws IllegalArgumentException, NoSuchElementException {
        if (!isName(name) || n < 0 || n > MOST_PLACES) {
            throw new IllegalArgumentException();
        }
        if (values[name].degree == 0) {
            throw new NoSuchElementException();
        }
        written = 0;
        rest.set(desk.gauge.wholePart(values[name], n));
        putRest();
        return written;
    }

    public int write(int name) throws IllegalArgumentException, NoSuchElementException {
        if (!isName(name)) {
            throw new IllegalArgumentException();
        }
        Value v = values[name];
        if (v.degree == 0) {
            throw new NoSuchElementException();
        }
        written = 0;
        for (int i = 0; i <= v.degree; i++) {
            put(i == 0 ? '[' : ',');
            rest.setLong(v.c[i]);
            putRest();
        }
        put(']');
        put('#');
        rest.setLong(v.index);
        putRest();
        return written;
    }

    public long out(int k) throws NoSuchElementException {
        if (k < 0 || k >= written) {
            throw new NoSuchElementException();
        }
        long eight = 0;
        for (int i = 7; i >= 0; i--) {
            int b = k + i < written ? text[k + i] & 0xFF : 0;
            eight = eight << 8 | b;
        }
        return eight;
    }

    public boolean drop(int name) throws IllegalArgumentException {
        if (name < 0 || name >= NAMES) {
            throw new IllegalArgumentException();
        }
        boolean had = values[name].degree != 0;
        values[name].degree = 0;
        return had;
    }

    private boolean isName(int name) {
        return name >= 0 && name <= IT;
    }

    private int namesWithValue() {
        int count = 0;
        for (int i = 0; i < NAMES; i++) {
            if (values[i].degree != 0) {
                count++;
            }
        }
        return count;
    }

    private void put(int b) {
        if (written < TEXT) {
            text[written] = (byte) b;
            written++;
        }
    }

    /** Writes the number in rest, which is used up. */
    private void putRest() {
        if (rest.sign < 0) {
            put('-');
        }
        int count = 0;
        for (int i = 0; i < 9 && (rest.sign != 0 || i == 0); i++) {
            int nine = rest.divide(BILLION);
            for (int j = 0; j < 9 && (nine != 0 || rest.sign != 0 || count == 0); j++) {
                digits[count] = (byte) ('0' + nine % 10);
                nine /= 10;
                count++;
            }
        }
        for (int i = count - 1; i >= 0; i--) {
            put(digits[i]);
        }
    }

    /** A whole number of any sign in a row that is made once; the row's room is set by who makes it. */
    private static final class Big {
        private static final long LOW = 0xFFFFFFFFL;
        private final int[] words;
        private int size;
        int sign;

        Big(int room) {
            words = new int[room];
        }

        void setLong(long v) {
            sign = v < 0 ? -1 : v > 0 ? 1 : 0;
            long rest = v < 0 ? -v : v;
            size = 0;
            for (int i = 0; i < 2 && i < words.length && rest != 0; i++) {
                words[i] = (int) rest;
                rest >>>= 32;
                size = i + 1;
            }
        }

        void set(Big o) {
            size = Math.min(o.size, words.length);
            System.arraycopy(o.words, 0, words, 0, size);
            sign = o.sign;
            trim();
        }

        void negate() {
            sign = -sign;
        }

        /** Of a number that has at most 63 bits. */
        long toLong() {
            long low = size > 0 ? words[0] & LOW : 0;
            long high = size > 1 ? words[1] & LOW : 0;
            long all = high << 32 | low;
            return sign < 0 ? -all : all;
        }

        int bits() {
            if (size == 0) {
                return 0;
            }
            return 32 * size - Integer.numberOfLeadingZeros(words[size - 1]);
        }

        boolean isOdd() {
            return size > 0 && (words[0] & 1) != 0;
        }

        /** The bits of the magnitude from a place on; at most 62 are there. */
        long top(int from) {
            int whole = from >> 5;
            int part = from & 31;
            long a = whole < size ? words[whole] & LOW : 0;
            long b = whole + 1 < size ? words[whole + 1] & LOW : 0;
            long c = whole + 2 < size ? words[whole + 2] & LOW : 0;
            long low = (b << 32 | a) >>> part;
            return part == 0 ? low : low | c << (64 - part);
        }

        int order(Big o) {
            if (sign != o.sign) {
                return sign < o.sign ? -1 : 1;
            }
            if (size != o.size) {
                return size < o.size ? -sign : sign;
            }
            for (int i = size - 1; i >= 0; i--) {
                if (words[i] != o.words[i]) {
                    return (words[i] & LOW) < (o.words[i] & LOW) ? -sign : sign;
                }
            }
            return 0;
        }

        void addTimes(Big o, int m) {
            if (m == 0 || o.sign == 0) {
                return;
            }
            int s = m < 0 ? -o.sign : o.sign;
            long f = m < 0 ? -(long) m : m;
            if (sign == 0) {
                sign = s;
            }
            boolean same = sign == s;
            int end = widen(Math.max(size, o.size) + 1);
            long carry = 0;
            for (int i = 0; i < end; i++) {
                long part = i < o.size ? (o.words[i] & LOW) * f : 0;
                long t = (words[i] & LOW) + carry + (same ? part : -part);
                words[i] = (int) t;
                carry = t >> 32;
            }
            if (carry < 0) {
                complement();
            }
            trim();
        }

        /** Of a number with at most 62 bits. */
        void addLong(long v) {
            if (v == 0) {
                return;
            }
            int s = v < 0 ? -1 : 1;
            long rest = v < 0 ? -v : v;
            if (sign == 0) {
                sign = s;
            }
            boolean same = sign == s;
            int end = widen(Math.max(size, 2) + 1);
            long carry = 0;
            for (int i = 0; i < end; i++) {
                long part = rest & LOW;
                rest >>>= 32;
                long t = (words[i] & LOW) + carry + (same ? part : -part);
                words[i] = (int) t;
                carry = t >> 32;
            }
            if (carry < 0) {
                complement();
            }
            trim();
        }

        void scale(int m) {
            if (m == 1 || sign == 0) {
                return;
            }
            if (m == 0) {
                setLong(0);
                return;
            }
            sign = m < 0 ? -sign : sign;
            long f = m < 0 ? -(long) m : m;
            int end = widen(size + 1);
            long carry = 0;
            for (int i = 0; i < end; i++) {
                long t = (words[i] & LOW) * f + carry;
                words[i] = (int) t;
                carry = t >>> 32;
            }
            trim();
        }

        /** Divides the magnitude by a number above 0; what is left over. */
        int divide(int d) {
            if (d <= 0) {
                return 0;
            }
            long rest = 0;
            for (int i = size - 1; i >= 0; i--) {
                long t = rest << 32 | words[i] & LOW;
                words[i] = (int) (t / d);
                rest = t % d;
            }
            trim();
            return (int) rest;
        }

        /** What is left over by a number above 0, from 0 on also for a number below 0. */
        int residue(int m) {
            if (m <= 0) {
                return 0;
            }
            long left = 0;
            for (int i = size - 1; i >= 0; i--) {
                left = (left << 32 | words[i] & LOW) % m;
            }
            return sign < 0 && left != 0 ? m - (int) left : (int) left;
        }

        void divideDown(int d) {
            boolean below = sign < 0;
            if (divide(d) != 0 && below) {
                fartherBelow();
            }
        }

        void setProduct(Big a, Big b) {
            sign = a.sign * b.sign;
            size = sign == 0 ? 0 : Math.min(a.size + b.size, words.length);
            for (int i = 0; i < size; i++) {
                words[i] = 0;
            }
            for (int i = 0; i < a.size && i < size; i++) {
                long f = a.words[i] & LOW;
                int end = Math.min(b.size, size - i);
                long carry = 0;
                for (int j = 0; j < end; j++) {
                    long t = f * (b.words[j] & LOW) + (words[i + j] & LOW) + carry;
                    words[i + j] = (int) t;
                    carry = t >>> 32;
                }
                if (i + end < size) {
                    words[i + end] = (int) carry;
                }
            }
            trim();
        }

        void shiftUp(int bits) {
            if (bits <= 0 || sign == 0) {
                return;
            }
            int whole = bits >> 5;
            int part = bits & 31;
            int had = size;
            int end = Math.min(had + whole + 1, words.length);
            for (int i = end - 1; i >= 0; i--) {
                int from = i - whole;
                long high = from >= 0 && from < had ? words[from] & LOW : 0;
                long low = from >= 1 && from <= had ? words[from - 1] & LOW : 0;
                words[i] = (int) (high << part | low << part >>> 32);
            }
            size = end;
            trim();
        }

        /** Rounds down, also below 0. */
        void shiftDown(int bits) {
            if (bits <= 0 || sign == 0) {
                return;
            }
            boolean lost = sign < 0 && hasBitBelow(bits);
            int whole = bits >> 5;
            int part = bits & 31;
            int end = Math.max(0, size - whole);
            for (int i = 0; i < end; i++) {
                long low = words[i + whole] & LOW;
                long high = i + whole + 1 < size ? words[i + whole + 1] & LOW : 0;
                words[i] = (int) ((high << 32 | low) >>> part);
            }
            size = end;
            trim();
            if (lost) {
                fartherBelow();
            }
        }

        /** One less, of a number that is not above 0. */
        private void fartherBelow() {
            int i = 0;
            while (i < size && words[i] == -1) {
                words[i] = 0;
                i++;
            }
            if (i < size) {
                words[i]++;
            } else if (size < words.length) {
                words[size] = 1;
                size++;
            }
            sign = -1;
        }

        private boolean hasBitBelow(int bits) {
            int whole = bits >> 5;
            for (int i = 0; i < whole && i < size; i++) {
                if (words[i] != 0) {
                    return true;
                }
            }
            int part = bits & 31;
            return whole < size && (words[whole] & (1 << part) - 1) != 0;
        }

        private int widen(int wanted) {
            int end = Math.min(wanted, words.length);
            for (int i = size; i < end; i++) {
                words[i] = 0;
            }
            size = end;
            return end;
        }

        private void complement() {
            long carry = 1;
            for (int i = 0; i < size; i++) {
                long t = (~words[i] & LOW) + carry;
                words[i] = (int) t;
                carry = t >>> 32;
            }
            sign = -sign;
        }

        private void trim() {
            while (size > 0 && words[size - 1] == 0) {
                size--;
            }
            if (size == 0) {
                sign = 0;
            }
        }
    }

    /** A polynomial with whole coefficients, the lowest one first; what Sums needs has fewer than 800 bits. */
    private static final class Poly {
        private static final int MOST = 12;
        private static final int ROOM = 28;
        final Big[] c;
        int degree;

        Poly() {
            c = new Big[MOST + 1];
            for (int i = 0; i <= MOST; i++) {
                c[i] = new Big(ROOM);
            }
        }

        void set(Value v) {
            degree = v.degree;
            for (int i = 0; i <= degree; i++) {
                c[i].setLong(v.c[i]);
            }
        }

        void set(Poly o) {
            degree = o.degree;
            for (int i = 0; i <= degree; i++) {
                c[i].set(o.c[i]);
            }
        }

        /** f of x to the k. */
        void setStretched(Value v, int k) {
            degree = v.degree * k;
            for (int i = 0; i <= degree && i <= MOST; i++) {
                c[i].setLong(i % k == 0 ? v.c[i / k] : 0);
            }
        }

        int mostBits() {
            int most = 0;
            for (int i = 0; i <= degree; i++) {
                most = Math.max(most, c[i].bits());
            }
            return most;
        }

        /** Divides by a value's polynomial as often as that goes; whether it went once. */
        boolean strip(Value v, Poly work) {
            boolean once = false;
            for (int i = 0; i <= MOST && degree >= v.degree && divides(v, work); i++) {
                once = true;
                degree -= v.degree;
                for (int j = 0; j <= degree; j++) {
                    c[j].set(work.c[j + v.degree]);
                }
            }
            return once;
        }

        /** Leaves the quotient in work from the divisor's degree on; as the divisor has no content, it is whole. */
        private boolean divides(Value v, Poly work) {
            int d = v.degree;
            for (int i = 0; i <= degree; i++) {
                work.c[i].set(c[i]);
            }
            for (int j = degree; j >= d; j--) {
                Big q = work.c[j];
                if (q.divide(v.c[d]) != 0) {
                    return false;
                }
                for (int i = 0; i < d; i++) {
                    work.c[j - d + i].addTimes(q, -v.c[i]);
                }
            }
            for (int i = 0; i < d; i++) {
                if (work.c[i].sign != 0) {
                    return false;
                }
            }
            return true;
        }
    }

    /**
     * A value: its polynomial and which of its real roots it is. From degree 2 on it is the only root between
     * low and low + 1, both over 2 to the scale; neither of them is a root, as those are not rational.
     */
    private static final class Value {
        private static final int ROOM = 12;
        final int[] c;
        final Big low;
        int degree;
        int index;
        int roots;
        int negatives;
        int scale;

        Value() {
            c = new int[HIGHEST + 1];
            low = new Big(ROOM);
        }

        void setFraction(int n, int d) {
            degree = 1;
            c[0] = -n;
            c[1] = d;
            finishFraction();
        }

        void finishFraction() {
            index = 0;
            roots = 1;
            negatives = c[0] > 0 ? 1 : 0;
            scale = 0;
            low.setLong(0);
        }

        /** Whether the fraction is a value. */
        boolean setQuotient(long n, long d) {
            long g = commonDivisor(n < 0 ? -n : n, d);
            long top = g == 0 ? n : n / g;
            long bottom = g == 0 ? d : d / g;
            if (top > LIMIT || top < -LIMIT || bottom > LIMIT || bottom < 1) {
                return false;
            }
            setFraction((int) top, (int) bottom);
            return true;
        }

        private static long commonDivisor(long a, long b) {
            long x = a;
            long y = b;
            for (int i = 0; i < 200 && y != 0; i++) {
                long rest = x % y;
                x = y;
                y = rest;
            }
            return x;
        }

        void copy(Value o) {
            degree = o.degree;
            System.arraycopy(o.c, 0, c, 0, HIGHEST + 1);
            low.set(o.low);
            index = o.index;
            roots = o.roots;
            negatives = o.negatives;
            scale = o.scale;
        }

        boolean isZero() {
            return degree == 1 && c[0] == 0;
        }

        boolean isNegative() {
            return degree == 1 ? c[0] > 0 : low.sign < 0;
        }

        boolean hasPolynomialOf(Value o) {
            if (degree != o.degree) {
                return false;
            }
            for (int i = 0; i <= degree; i++) {
                if (c[i] != o.c[i]) {
                    return false;
                }
            }
            return true;
        }

        void negate() {
            for (int i = degree - 1; i >= 0; i -= 2) {
                c[i] = -c[i];
            }
            if (degree == 1) {
                finishFraction();
                return;
            }
            index = roots - 1 - index;
            negatives = roots - negatives;
            low.addLong(1);
            low.negate();
        }

        /** The polynomial and the index of 1 over the number; where it lies is to be found then. */
        void invert() {
            int flip = c[0] < 0 ? -1 : 1;
            for (int i = 0; i <= degree - i; i++) {
                int kept = c[i];
                c[i] = flip * c[degree - i];
                c[degree - i] = flip * kept;
            }
            if (degree == 1) {
                finishFraction();
            } else if (index < negatives) {
                index = negatives - 1 - index;
            } else {
                index = negatives + roots - 1 - index;
            }
        }

        void lieAt(Isolator found, int number) {
            if (number < 0 || number >= found.count) {
                return;
            }
            index = number;
            roots = found.count;
            negatives = found.negatives;
            low.set(found.low[number]);
            scale = found.scale[number];
        }
    }

    /** Reads a line as a whole and leaves what is to be worked, each operation behind its numbers. */
    private static final class Reader {
        private static final int ROOM = 820;
        private static final int DEEPEST = 12;
        private static final int MOST_DIGITS = 9;
        private static final int MOST_COEFFICIENTS = 9;
        private static final int NUMBER = 1;
        private static final int NAME = 2;
        private static final int NEGATE = 3;
        private static final int ADD = 4;
        private static final int SUBTRACT = 5;
        private static final int MULTIPLY = 6;
        private static final int DIVIDE = 7;
        private static final int ROOT = 8;
        private static final int POLYNOMIAL = 9;
        private static final int ORDER = 10;

        final int[] code;
        private final byte[] tape;
        private int length;
        private int value;
        int at;
        int size;
        int target;

        Reader(byte[] bytes) {
            tape = bytes;
            code = new int[ROOM];
        }

        /** When it is false, at is the place. */
        boolean reads(int count) {
            length = Math.min(count, tape.length);
            at = 0;
            size = 0;
            readTarget();
            if (!sum(0)) {
                return false;
            }
            if (next() == '?') {
                at++;
                if (!sum(0)) {
                    return false;
                }
                emit(ORDER);
            }
            return next() < 0;
        }

        private void readTarget() {
            target = -1;
            int c = next();
            if (c < 'a' || c > 'p') {
                return;
            }
            int start = at;
            at++;
            if (next() == '=') {
                target = c - 'a';
                at++;
            } else {
                at = start;
            }
        }

        /** The byte at the next place that is no blank, -1 at the end. */
        private int next() {
            while (at < length && tape[at] == ' ') {
                at++;
            }
            return at < length ? tape[at] & 0xFF : -1;
        }

        private void emit(int word) {
            if (size < ROOM) {
                code[size] = word;
                size++;
            }
        }

        private boolean sum(int depth) {
            if (!product(depth)) {
                return false;
            }
            int c = next();
            for (int i = 0; i < TAPE && (c == '+' || c == '-'); i++) {
                at++;
                if (!product(depth)) {
                    return false;
                }
                emit(c == '+' ? ADD : SUBTRACT);
                c = next();
            }
            return true;
        }

        private boolean product(int depth) {
            if (!factor(depth)) {
                return false;
            }
            int c = next();
            for (int i = 0; i < TAPE && (c == '*' || c == '/'); i++) {
                at++;
                if (!factor(depth)) {
                    return false;
                }
                emit(c == '*' ? MULTIPLY : DIVIDE);
                c = next();
            }
            return true;
        }

        /** Signs are counted, not nested, as a line may have hundreds of them. */
        private boolean factor(int depth) {
            boolean minus = false;
            int c = next();
            for (int i = 0; i < TAPE && c == '-'; i++) {
                minus = !minus;
                at++;
                c = next();
            }
            boolean good = false;
            if (c >= '0' && c <= '9') {
                good = number();
                emit(NUMBER);
                emit(value);
            } else if (c >= 'a' && c <= 'p') {
                good = true;
                at++;
                emit(NAME);
                emit(c - 'a');
            } else if (c == '(') {
                good = bracket(depth);
            } else if (c == '#') {
                good = rootOfOrder(depth);
            } else if (c == '@') {
                good = rootOfPolynomial(depth);
            }
            if (minus) {
                emit(NEGATE);
            }
            return good;
        }

        /** Whether there is a number of 1 to 9 digits, which is left in value; a tenth one is the place. */
        private boolean number() {
            int digits = 0;
            value = 0;
            while (at < length && tape[at] >= '0' && tape[at] <= '9') {
                if (digits == MOST_DIGITS) {
                    return false;
                }
                value = value * 10 + (tape[at] - '0');
                digits++;
                at++;
            }
            return digits > 0;
        }

        private boolean bracket(int depth) {
            if (next() != '(' || depth >= DEEPEST) {
                return false;
            }
            at++;
            if (!sum(depth + 1) || next() != ')') {
                return false;
            }
            at++;
            return true;
        }

        private boolean rootOfOrder(int depth) {
            at++;
            int k = next();
            if (k < '2' || k > '6') {
                return false;
            }
            at++;
            if (!bracket(depth)) {
                return false;
            }
            emit(ROOT);
            emit(k - '0');
            return true;
        }

        private boolean rootOfPolynomial(int depth) {
            at++;
            int i = next();
            if (i < '0' || i > '7') {
                return false;
            }
            at++;
            if (next() != '(' || depth >= DEEPEST) {
                return false;
            }
            at++;
            emit(POLYNOMIAL);
            emit(i - '0');
            int counted = size;
            emit(0);
            for (int k = 1; k <= MOST_COEFFICIENTS; k++) {
                boolean minus = next() == '-';
                at += minus ? 1 : 0;
                next();
                if (!number()) {
                    return false;
                }
                emit(minus ? -value : value);
                int c = next();
                if (c == ')') {
                    at++;
                    if (counted < ROOM) {
                        code[counted] = k;
                    }
                    return true;
                }
                if (c != ',' || k == MOST_COEFFICIENTS) {
                    return false;
                }
                at++;
            }
            return false;
        }
    }

    /** Works what was read, on a stack of values. */
    private static final class Desk {
        private static final int TO_REDUCE = 1;
        private static final int TO_CHOOSE = 2;
        private static final int TO_SEARCH = 3;
        private static final int TO_SETTLE = 4;
        private static final int DEEP = 32;
        private static final int HIGHEST_PRODUCT = 12;
        private static final int ROUNDS = 8;
        private static final int MOST_FACTORS = 10000;

        private final Value[] stack;
        private final Value found;
        private final Poly poly;
        private final Poly candidate;
        private final Poly work;
        private final Sums sums;
        private final Factors factors;
        private final Isolator isolator;
        final Gauge gauge;
        private int top;
        private int number;
        int at;

        Desk() {
            stack = new Value[DEEP];
            for (int i = 0; i < DEEP; i++) {
                stack[i] = new Value();
            }
            found = new Value();
            poly = new Poly();
            candidate = new Poly();
            work = new Poly();
            sums = new Sums();
            factors = new Factors();
            isolator = new Isolator();
            gauge = new Gauge();
        }

        void start() {
            top = 0;
            at = 0;
        }

        Value result() {
            return stack[0];
        }

        /** One operation: 0, an answer below 0, or which part of it is to be done next. */
        int step(int[] code, int size, Value[] values) {
            int word = at < size ? code[at] : 0;
            int detail = at + 1 < size ? code[at + 1] : 0;
            at++;
            switch (word) {
                case Reader.NUMBER:
                    at++;
                    pushSlot().setFraction(detail, 1);
                    return 0;
                case Reader.NAME:
                    at++;
                    return recall(values[Math.floorMod(detail, NAMES)]);
                case Reader.NEGATE:
                    topSlot().negate();
                    return 0;
                case Reader.ROOT:
                    at++;
                    return rootOfOrder(topSlot(), detail);
                case Reader.POLYNOMIAL:
                    pushSlot();
                    return rootOfPolynomial(code, size);
                case Reader.ORDER:
                    top = Math.max(top - 1, 1);
                    topSlot().setFraction(gauge.order(topSlot(), stack[top]), 1);
                    return 0;
                default:
                    top = Math.max(top - 1, 1);
                    return operate(word, topSlot(), stack[top]);
            }
        }

        /** A line has at most 12 brackets open, each with two numbers before it, so that there is always room. */
        private Value pushSlot() {
            top = Math.min(top + 1, DEEP - 1);
            return topSlot();
        }

        private Value topSlot() {
            return stack[Math.max(top - 1, 0)];
        }

        private int recall(Value v) {
            if (v.degree == 0) {
                return NAME_WITHOUT_VALUE;
            }
            pushSlot().copy(v);
            return 0;
        }

        /** An operation on two numbers; what comes out goes to the place of the first one. */
        private int operate(int word, Value x, Value y) {
            if (word == Reader.DIVIDE && y.isZero()) {
                return BY_ZERO;
            }
            if (x.degree * y.degree > HIGHEST_PRODUCT) {
                return TOO_HIGH;
            }
            if (word == Reader.SUBTRACT) {
                y.negate();
            }
            if (word == Reader.DIVIDE) {
                y.invert();
                findAgain(y);
            }
            boolean times = word == Reader.MULTIPLY || word == Reader.DIVIDE;
            if (x.degree == 1 && y.degree == 1) {
                return joinFractions(x, y, times);
            }
            if (times && (x.isZero() || y.isZero())) {
                x.setFraction(0, 1);
                return 0;
            }
            sums.build(x, y, times, poly);
            if (x.degree > 1 && y.degree > 1) {
                gauge.aimAtPair(x, y, times);
                return TO_SEARCH;
            }
            Value fraction = x.degree == 1 ? x : y;
            Value v = x.degree == 1 ? y : x;
            number = times && fraction.isNegative() ? v.roots - 1 - v.index : v.index;
            return TO_REDUCE;
        }

        /** Where the root with a value's index lies. */
        private void findAgain(Value v) {
            if (v.degree > 1) {
                candidate.set(v);
                isolator.isolate(candidate);
                v.lieAt(isolator, v.index);
            }
        }

        private int joinFractions(Value x, Value y, boolean times) {
            long a = -(long) x.c[0];
            long b = x.c[1];
            long c = -(long) y.c[0];
            long d = y.c[1];
            long n = times ? a * c : a * d + c * b;
            return x.setQuotient(n, b * d) ? 0 : NO_VALUE;
        }

        /** With a fraction the built polynomial has no factors, and the order of its roots is known. */
        int reduce() {
            if (!factors.reduceWhole(poly, found) || !poly.strip(found, work)) {
                return NO_VALUE;
            }
            found.index = number;
            findAgain(found);
            topSlot().copy(found);
            return 0;
        }

        private int rootOfOrder(Value x, int k) {
            if (k < 2 || k * x.degree > HIGHEST_PRODUCT) {
                return TOO_HIGH;
            }
            boolean even = k % 2 == 0;
            if (even && x.isNegative()) {
                return EVEN_BELOW_ZERO;
            }
            if (x.isZero()) {
                return 0;
            }
            poly.setStretched(x, k);
            int positives = x.roots - x.negatives;
            number = even ? positives + x.index - x.negatives : x.index;
            return TO_CHOOSE;
        }

        private int rootOfPolynomial(int[] code, int size) {
            number = at < size ? code[at] : 0;
            int count = at + 1 < size ? code[at + 1] : 0;
            at += 2;
            poly.degree = 0;
            for (int i = 0; i < count && i <= Poly.MOST && at + i < size; i++) {
                poly.c[i].setLong(code[at + i]);
                if (code[at + i] != 0) {
                    poly.degree = i;
                }
            }
            at += count;
            return poly.degree == 0 ? NO_ROOT : TO_CHOOSE;
        }

        /** Takes the root with the wanted number of the polynomial at hand. */
        int choose() {
            factors.makeSquareFree(poly, candidate, work);
            isolator.isolate(poly);
            if (number < 0 || number >= isolator.count) {
                return NO_ROOT;
            }
            Big low = isolator.low[number];
            int scale = isolator.scale[number];
            if (!isolator.exact[number]) {
                gauge.aimAtRoot(low, scale);
                return TO_SEARCH;
            }
            low.shiftUp(-scale);
            int down = Math.max(scale, 0);
            for (int i = 0; i < Isolator.DEEPEST && down > 0 && !low.isOdd(); i++) {
                low.shiftDown(1);
                down--;
            }
            return topSlot().setQuotient(low.toLong(), 1L << Math.min(down, 62)) ? 0 : NO_VALUE;
        }

        /** Goes through the factors of the polynomial at hand until one has the aimed number as a root. */
        int search() {
            if (!gauge.fixed) {
                factors.makeSquareFree(poly, candidate, work);
            }
            if (!factors.prepare(poly) || !factors.begin()) {
                return NO_VALUE;
            }
            for (int i = 0; i < MOST_FACTORS && factors.next(found); i++) {
                if (!poly.strip(found, work)) {
                    continue;
                }
                factors.remove();
                candidate.set(found);
                int verdict = gauge.judge(found, candidate, poly);
                for (int j = 0; j < ROUNDS && verdict == 0; j++) {
                    gauge.sharpen();
                    verdict = gauge.judge(found, candidate, poly);
                }
                if (verdict > 0) {
                    return TO_SETTLE;
                }
            }
            return NO_VALUE;
        }

        /** Tells which root of the found polynomial the aimed number is. */
        int settle() {
            if (found.degree == 1) {
                found.finishFraction();
            } else {
                isolator.isolate(candidate);
                int which = gauge.locate(isolator);
                for (int j = 0; j < ROUNDS && which < 0; j++) {
                    gauge.sharpen();
                    which = gauge.locate(isolator);
                }
                if (which < 0) {
                    return NO_VALUE;
                }
                found.lieAt(isolator, which);
            }
            topSlot().copy(found);
            return 0;
        }
    }

    /**
     * Builds the polynomial of all sums (or products) of a root of one polynomial and one of another, by sums of
     * powers: with a and b the highest coefficients, a times the one and b times the other roots have whole sums.
     */
    private static final class Sums {
        private final Big[] left;
        private final Big[] right;
        private final Big[] both;
        private final Big term;

        Sums() {
            left = new Big[Poly.MOST + 1];
            right = new Big[Poly.MOST + 1];
            both = new Big[Poly.MOST + 1];
            for (int i = 0; i <= Poly.MOST; i++) {
                left[i] = new Big(Poly.ROOM);
                right[i] = new Big(Poly.ROOM);
                both[i] = new Big(Poly.ROOM);
            }
            term = new Big(2 * Poly.ROOM);
        }

        void build(Value x, Value y, boolean times, Poly to) {
            int n = Math.min(x.degree * y.degree, Poly.MOST);
            powerSums(x, n, left);
            powerSums(y, n, right);
            if (times) {
                for (int k = 1; k <= n; k++) {
                    both[k].setProduct(left[k], right[k]);
                }
            } else {
                joinSums(x.c[x.degree], y.c[y.degree], n);
            }
            fromPowerSums(n, to);
            for (int j = 0; j <= n; j++) {
                unscale(to.c[j], x.c[x.degree], j + y.degree - n, y.c[y.degree], j + x.degree - n);
            }
        }

        /** Newton's identities, nested so that only single coefficients multiply. */
        private void powerSums(Value v, int n, Big[] to) {
            int m = v.degree;
            to[0].setLong(m);
            for (int k = 1; k <= n; k++) {
                Big sum = to[k];
                sum.setLong(0);
                for (int j = Math.min(k, m); j >= 1; j--) {
                    sum.scale(v.c[m]);
                    if (j == k) {
                        sum.addLong((long) k * v.c[m - j]);
                    } else {
                        sum.addTimes(to[k - j], v.c[m - j]);
                    }
                }
                sum.negate();
            }
        }

        private void joinSums(int a, int b, int n) {
            for (int k = 1; k <= n; k++) {
                for (int i = 0; i < k; i++) {
                    left[k].scale(b);
                    right[k].scale(a);
                }
            }
            for (int k = 1; k <= n; k++) {
                both[k].setLong(0);
                int choices = 1;
                for (int i = 0; i <= k; i++) {
                    term.setProduct(left[i], right[k - i]);
                    both[k].addTimes(term, choices);
                    choices = choices * (k - i) / (i + 1);
                }
            }
        }

        private void fromPowerSums(int n, Poly to) {
            to.degree = n;
            to.c[n].setLong(1);
            for (int k = 1; k <= n; k++) {
                Big sum = to.c[n - k];
                sum.setLong(0);
                for (int i = 1; i <= k; i++) {
                    term.setProduct(to.c[n - k + i], both[i]);
                    sum.addTimes(term, -1);
                }
                sum.divide(k);
            }
        }

        /** Times a to the i and b to the j, which may be below 0: all is multiplied before anything is divided. */
        private void unscale(Big v, int a, int i, int b, int j) {
            for (int k = 0; k < i; k++) {
                v.scale(a);
            }
            for (int k = 0; k < j; k++) {
                v.scale(b);
            }
            for (int k = i; k < 0 && a != 1; k++) {
                v.divide(a);
            }
            for (int k = j; k < 0 && b != 1; k++) {
                v.divide(b);
            }
        }
    }

    /**
     * Finds the real roots of a polynomial without multiple roots, in rising order, by halving and Descartes' rule.
     * One polynomial walks from cell to cell, so that no stack of them is needed: in a cell (k, scale) it is the
     * given one of (x + k) / 2 to the scale.
     *
     * By Mahler's bound the roots of a line's polynomial (degree 8) are more than 2^-235 apart, those of a value's
     * more than 2^-172, their roots of order k more than 2^-189. A cell that is half as wide has no two of them near
     * it, so that 270, 208 and 210 halvings are enough for degree 8, 6 and 12.
     */
    private static final class Isolator {
        private static final int ROOM = 96;
        private static final int MOST_BITS = 2600;
        private static final int DEEPEST = 370;
        private static final int STEPS = 100000;

        private final Big[] f;
        private final Big[] g;
        private final Big cell;
        final Big[] low;
        final int[] scale;
        final boolean[] exact;
        private int degree;
        private int first;
        private int depth;
        int count;
        int negatives;

        Isolator() {
            f = new Big[Poly.MOST + 1];
            g = new Big[Poly.MOST + 1];
            for (int i = 0; i <= Poly.MOST; i++) {
                f[i] = new Big(ROOM);
                g[i] = new Big(ROOM);
            }
            cell = new Big(Value.ROOM);
            low = new Big[Poly.MOST];
            for (int i = 0; i < Poly.MOST; i++) {
                low[i] = new Big(Value.ROOM);
            }
            scale = new int[Poly.MOST];
            exact = new boolean[Poly.MOST];
        }

        void isolate(Poly p) {
            start(p);
            boolean more = true;
            for (int i = 0; i < STEPS && more; i++) {
                boolean atStart = f[0].sign == 0;
                int changes = hasChange() ? changesInside() : 0;
                boolean many = changes > 1 || changes == 1 && atStart;
                if (many && depth - first < DEEPEST && (depth - first + 1) * degree < MOST_BITS) {
                    split();
                } else {
                    if (!many && (atStart || changes == 1)) {
                        record(atStart);
                    }
                    more = advance();
                }
            }
        }

        /** The first cell is the one below 0 that is so wide that no root lies beyond it. */
        private void start(Poly p) {
            degree = p.degree;
            int bound = bound(p);
            for (int i = 0; i <= degree; i++) {
                f[i].set(p.c[i]);
                f[i].shiftUp(bound >= 0 ? bound * i : -bound * (degree - i));
            }
            for (int i = 0; i < degree; i++) {
                for (int j = degree - 1; j >= i; j--) {
                    f[j].addTimes(f[j + 1], -1);
                }
            }
            first = -bound;
            depth = first;
            cell.setLong(-1);
            count = 0;
            negatives = 0;
        }

        /** Fujiwara's bound: all roots are nearer to 0 than 2 to it. */
        private int bound(Poly p) {
            int lead = p.c[degree].bits();
            int most = -100000;
            for (int i = 1; i <= degree; i++) {
                Big c = p.c[degree - i];
                if (c.sign != 0) {
                    most = Math.max(most, -Math.floorDiv(lead - c.bits() - 1, i));
                }
            }
            return most == -100000 ? 0 : most + 1;
        }

        private boolean hasChange() {
            int last = 0;
            for (int i = 0; i <= degree; i++) {
                int sign = f[i].sign;
                if (sign != 0 && sign == -last) {
                    return true;
                }
                last = sign != 0 ? sign : last;
            }
            return false;
        }

        /** How often the signs change in (1 + x)^n f(1 / (1 + x)): 0, 1, or 2 for more. */
        private int changesInside() {
            for (int i = 0; i <= degree; i++) {
                g[i].set(f[degree - i]);
            }
            int changes = 0;
            int last = 0;
            for (int i = 0; i <= degree && changes < 2; i++) {
                for (int j = degree - 1; j >= i; j--) {
                    g[j].addTimes(g[j + 1], 1);
                }
                if (g[i].sign != 0 && g[i].sign == -last) {
                    changes++;
                }
                last = g[i].sign != 0 ? g[i].sign : last;
            }
            return changes;
        }

        private void split() {
            for (int i = 0; i < degree; i++) {
                f[i].shiftUp(degree - i);
            }
            cell.shiftUp(1);
            depth++;
        }

        private void record(boolean isExact) {
            if (count >= Poly.MOST) {
                return;
            }
            low[count].set(cell);
            scale[count] = depth;
            exact[count] = isExact;
            count++;
            if (cell.sign < 0) {
                negatives++;
            }
        }

        /** To the next cell, the widest one that begins there; false behind the last one. */
        private boolean advance() {
            for (int i = 0; i < degree; i++) {
                for (int j = degree - 1; j >= i; j--) {
                    f[j].addTimes(f[j + 1], 1);
                }
            }
            cell.addLong(1);
            while (depth > first && !cell.isOdd()) {
                for (int i = 0; i < degree; i++) {
                    f[i].shiftDown(degree - i);
                }
                cell.shiftDown(1);
                depth--;
            }
            return depth > first || cell.sign <= 0;
        }
    }

    /**
     * Binary digits of values, and the tests that lean on them. How near two numbers can be that are not the same:
     * two values 2^-430; a value and a fraction over 10^30 2^-800; a value and an end of its cell 2^-1240; 0 and what
     * a factor has at a root of another one, the coefficients' size and what Horner's scheme is off included, 2^-1870.
     */
    private static final class Gauge {
        private static final int LONG = 400;
        private static final int SHORT = 72;
        private static final int FIRST_BITS = 32;
        private static final int MOST_BITS = 2048;
        private static final int WIDEST = 28;
        private static final int STEPS = 5000;

        private final Big left;
        private final Big right;
        private final Big here;
        private final Big beside;
        private final Big at;
        private final Big point;
        private final Big term;
        private final Big spare;
        private final Big mid;
        private final Big one;
        private final Big other;
        private Value x;
        private Value y;
        private boolean times;
        boolean fixed;
        private int bits;
        private int spread;

        Gauge() {
            left = new Big(LONG);
            right = new Big(LONG);
            here = new Big(LONG);
            beside = new Big(LONG);
            at = new Big(SHORT);
            point = new Big(SHORT);
            term = new Big(LONG);
            spare = new Big(LONG);
            mid = new Big(SHORT);
            one = new Big(SHORT);
            other = new Big(SHORT);
        }

        /** The greatest whole number that is not above the value times 2 to the wanted bits. */
        private void approximate(Value v, int wanted, Big to) {
            if (v.degree == 1) {
                to.setLong(-(long) v.c[0]);
                to.shiftUp(wanted);
                to.divideDown(v.c[1]);
                return;
            }
            int scale = v.scale;
            to.set(v.low);
            if (scale >= wanted) {
                to.shiftDown(scale - wanted);
                return;
            }
            at.set(to);
            evaluate(v, at, scale, left);
            at.addLong(1);
            evaluate(v, at, scale, right);
            int step = 1;
            for (int i = 0; i < STEPS && scale < wanted; i++) {
                int width = Math.min(step, wanted - scale);
                if (narrow(v, to, scale, width)) {
                    scale += width;
                    step = Math.min(2 * step, WIDEST);
                } else {
                    step = Math.max(step / 2, 1);
                }
            }
        }

        /**
         * Cuts the cell that holds the root into 2 to the width parts and looks whether the root is in the one where
         * a straight line between the ends would have it, or beside; with two parts it always finds it.
         */
        private boolean narrow(Value v, Big to, int scale, int width) {
            long guess = 1;
            if (width > 1) {
                int from = Math.max(0, Math.max(left.bits(), right.bits()) - 34);
                long a = left.top(from);
                long all = Math.max(1, a + right.top(from));
                guess = Math.min((a << width) / all, (1L << width) - 1);
            }
            at.set(to);
            at.shiftUp(width);
            at.addLong(guess);
            evaluate(v, at, scale + width, here);
            boolean before = here.sign == left.sign;
            at.addLong(before ? 1 : -1);
            evaluate(v, at, scale + width, beside);
            if ((beside.sign == left.sign) == before) {
                return false;
            }
            if (before) {
                at.addLong(-1);
            }
            to.set(at);
            left.set(before ? here : beside);
            right.set(before ? beside : here);
            return true;
        }

        /** The polynomial's value at k over 2 to the scale, times a power of 2 that hangs on the scale alone. */
        private void evaluate(Value v, Big k, int scale, Big to) {
            point.set(k);
            point.shiftUp(-scale);
            to.setLong(v.c[v.degree]);
            for (int i = v.degree - 1; i >= 0; i--) {
                spare.setProduct(to, point);
                term.setLong(v.c[i]);
                term.shiftUp(scale * (v.degree - i));
                spare.addTimes(term, 1);
                to.set(spare);
            }
        }

        int order(Value v, Value w) {
            if (v.hasPolynomialOf(w)) {
                return Integer.compare(v.index, w.index);
            }
            int answer = 0;
            for (int b = FIRST_BITS; b <= MOST_BITS && answer == 0; b = b < 512 ? 2 * b : b + 128) {
                approximate(v, b, one);
                approximate(w, b, other);
                answer = one.order(other);
            }
            return answer;
        }

        /** The greatest whole number that is not above the value times 10 to the n. */
        Big wholePart(Value v, int n) {
            if (v.degree == 1) {
                one.setLong(-(long) v.c[0]);
                timesTen(one, n);
                one.divideDown(v.c[1]);
                return one;
            }
            boolean same = false;
            for (int b = 4 * n + 32; b <= MOST_BITS && !same; b += 96) {
                approximate(v, b, one);
                other.set(one);
                other.addLong(1);
                timesTen(one, n);
                timesTen(other, n);
                other.addLong(-1);
                one.shiftDown(b);
                other.shiftDown(b);
                same = one.order(other) == 0;
            }
            return one;
        }

        private void timesTen(Big v, int n) {
            for (int i = 0; i < n; i++) {
                v.scale(10);
            }
        }

        void aimAtPair(Value first, Value second, boolean product) {
            x = first;
            y = second;
            times = product;
            fixed = false;
            bits = 0;
        }

        /** At the only root of the polynomial at hand between low and low + 1, over 2 to the scale. */
        void aimAtRoot(Big low, int scale) {
            fixed = true;
            mid.set(low);
            bits = scale;
            spread = 0;
        }

        /** The number times 2 to the bits is not further from mid than 2 to the spread. */
        void sharpen() {
            if (fixed || x == null || y == null) {
                return;
            }
            bits = bits == 0 ? FIRST_BITS : Math.min(2 * bits, MOST_BITS);
            approximate(x, bits, one);
            approximate(y, bits, other);
            if (times) {
                term.setProduct(one, other);
                term.shiftDown(bits);
                mid.set(term);
                spread = 3 + Math.max(0, Math.max(one.bits(), other.bits()) - bits);
            } else {
                mid.set(one);
                mid.addTimes(other, 1);
                spread = 1;
            }
        }

        /** Whether the aimed number is a root of the candidate: 1, -1; 0 if the digits do not tell yet. */
        int judge(Value found, Poly candidate, Poly rest) {
            if (rest.degree == 0) {
                return 1;
            }
            if (fixed) {
                evaluate(found, mid, bits, left);
                at.set(mid);
                at.addLong(1);
                evaluate(found, at, bits, right);
                return left.sign * right.sign < 0 ? 1 : -1;
            }
            if (bits == 0) {
                return 0;
            }
            if (misses(candidate)) {
                return -1;
            }
            return misses(rest) ? 1 : 0;
        }

        /**
         * Whether the polynomial is certainly not 0 at the aimed number. With reach the bits of what the number is
         * below (1 at least), Horner's scheme is off by less than n (n + 1) 2^(reach (n - 1) + spread) times the
         * greatest coefficient, and n (n + 1) is below 2^8.
         */
        private boolean misses(Poly p) {
            int n = p.degree;
            int reach = Math.max(0, Math.max(mid.bits(), spread) - bits + 1);
            spare.set(p.c[n]);
            spare.shiftUp(bits);
            for (int i = n - 1; i >= 0; i--) {
                term.setProduct(spare, mid);
                term.shiftDown(bits);
                spare.set(p.c[i]);
                spare.shiftUp(bits);
                spare.addTimes(term, 1);
            }
            return spare.bits() > reach * (n - 1) + spread + p.mostBits() + 8;
        }

        /** Which of the found roots is the aimed number; -1 if the digits do not tell yet. */
        int locate(Isolator found) {
            int number = -1;
            int hits = 0;
            for (int i = 0; i < found.count; i++) {
                if (touches(found.low[i], found.scale[i])) {
                    hits++;
                    number = i;
                }
            }
            return hits == 1 ? number : -1;
        }

        private boolean touches(Big low, int scale) {
            if (!fixed && bits == 0) {
                return false;
            }
            left.set(mid);
            right.set(mid);
            if (fixed) {
                right.addLong(1);
            } else {
                term.setLong(1);
                term.shiftUp(spread);
                left.addTimes(term, -1);
                right.addTimes(term, 1);
            }
            left.shiftUp(scale - bits);
            right.shiftUp(scale - bits);
            here.set(low);
            beside.set(low);
            beside.addLong(1);
            here.shiftUp(bits - scale);
            beside.shiftUp(bits - scale);
            return right.order(here) > 0 && left.order(beside) < 0;
        }
    }

    /** Polynomials modulo a prime below 2^16, in rows with the lowest coefficient first. */
    private static final class Field {
        private static final int ROOM = 28;
        int p;
        private final long[] product;
        private final long[] power;
        long[] common;
        private long[] spareCommon;
        long[] cofactor;
        private long[] spareCofactor;

        Field() {
            p = 3;
            product = new long[ROOM];
            power = new long[ROOM];
            common = new long[ROOM];
            spareCommon = new long[ROOM];
            cofactor = new long[ROOM];
            spareCofactor = new long[ROOM];
        }

        long inverse(long a) {
            long result = 1;
            long square = a;
            for (int e = p - 2; e > 0; e >>= 1) {
                if ((e & 1) != 0) {
                    result = result * square % p;
                }
                square = square * square % p;
            }
            return result;
        }

        long negative(long a) {
            return a == 0 ? 0 : p - a;
        }

        /** a times b modulo h, whose degree is d and highest coefficient 1; the two are shorter than h. */
        void multiply(long[] a, long[] b, long[] h, int d, long[] to) {
            for (int i = 0; i < 2 * d; i++) {
                product[i] = 0;
            }
            for (int i = 0; i < d; i++) {
                long f = a[i];
                if (f != 0) {
                    for (int j = 0; j < d; j++) {
                        product[i + j] += f * b[j];
                    }
                }
            }
            reduce(product, 2 * d - 2, h, d);
            System.arraycopy(product, 0, to, 0, d);
        }

        /** a modulo h in its own row, which may hold sums of products of residues. */
        void reduce(long[] a, int n, long[] h, int d) {
            for (int i = n; i >= d; i--) {
                long q = a[i] % p;
                a[i] = 0;
                if (q != 0) {
                    for (int j = 0; j < d; j++) {
                        a[i - d + j] += (p - q) * h[j];
                    }
                }
            }
            for (int i = 0; i < d; i++) {
                a[i] %= p;
            }
        }

        void raise(long[] a, int e, long[] h, int d, long[] to) {
            System.arraycopy(a, 0, power, 0, d);
            System.arraycopy(a, 0, to, 0, d);
            for (int bit = Integer.highestOneBit(e) >> 1; bit > 0; bit >>= 1) {
                multiply(to, to, h, d, to);
                if ((e & bit) != 0) {
                    multiply(power, to, h, d, to);
                }
            }
        }

        /** a over b, which has the highest coefficient 1, when it goes; to may be a. */
        void divide(long[] a, int n, long[] b, int d, long[] to) {
            System.arraycopy(a, 0, product, 0, n + 1);
            for (int i = n; i >= d; i--) {
                long q = product[i] % p;
                to[i - d] = q;
                for (int j = 0; j < d; j++) {
                    product[i - d + j] += (p - q) * b[j];
                }
            }
        }

        /**
         * The degree of the greatest common divisor, which is left in common with the highest coefficient 1; cofactor
         * times b is the same modulo a.
         */
        int euclid(long[] a, int n, long[] b, int m) {
            for (int i = 0; i < ROOM; i++) {
                common[i] = i <= n ? a[i] : 0;
                spareCommon[i] = i <= m ? b[i] : 0;
                cofactor[i] = 0;
                spareCofactor[i] = i == 0 ? 1 : 0;
            }
            int high = degreeOf(common, n);
            int less = degreeOf(spareCommon, m);
            for (int i = 0; i < 4 * ROOM && less >= 0; i++) {
                if (high >= less) {
                    long q = p - common[high] * inverse(spareCommon[less]) % p;
                    addShifted(common, spareCommon, q, high - less, high);
                    addShifted(cofactor, spareCofactor, q, high - less, n);
                    high = degreeOf(common, high);
                }
                if (high < less) {
                    swapRows();
                    int kept = high;
                    high = less;
                    less = kept;
                }
            }
            if (high >= 0) {
                long f = inverse(common[high]);
                for (int i = 0; i <= n; i++) {
                    common[i] = common[i] * f % p;
                    cofactor[i] = cofactor[i] * f % p;
                }
            }
            return high;
        }

        private void swapRows() {
            long[] kept = common;
            common = spareCommon;
            spareCommon = kept;
            kept = cofactor;
            cofactor = spareCofactor;
            spareCofactor = kept;
        }

        private void addShifted(long[] to, long[] what, long q, int shift, int last) {
            for (int i = 0; i + shift <= last; i++) {
                to[i + shift] = (to[i + shift] + q * what[i]) % p;
            }
        }

        private int degreeOf(long[] a, int most) {
            int d = most;
            while (d >= 0 && a[d] == 0) {
                d--;
            }
            return d;
        }
    }

    /**
     * Polynomials modulo a prime to the 4th: every coefficient is 4 digits in base p, the lowest first. The power is
     * above 2 * (2^31 - 1)^2, so that a fraction of two coefficients of a value is told by it, and below 2^64.
     */
    private static final class Padic {
        private static final int DIGITS = 4;
        private static final int ROOM = (Poly.MOST + 1) * DIGITS;
        private int p;
        private long modulus;
        private final Big rest;

        Padic() {
            p = 3;
            rest = new Big(Poly.ROOM);
        }

        void setPrime(int prime) {
            p = Math.max(prime, 3);
            modulus = 1;
            for (int i = 0; i < DIGITS; i++) {
                modulus *= p;
            }
        }

        void load(Big v, long[] to, int at) {
            rest.set(v);
            int borrow = 0;
            for (int i = 0; i < DIGITS; i++) {
                int digit = rest.sign == 0 ? 0 : rest.divide(p);
                if (v.sign < 0) {
                    digit = -digit - borrow;
                    borrow = digit < 0 ? 1 : 0;
                    digit += borrow * p;
                }
                to[at + i] = digit;
            }
        }

        /** x over y in the place of x; inverse is that of y's lowest digit. */
        private void divide(long[] x, int at, long[] y, int from, long inverse) {
            for (int i = 0; i < DIGITS; i++) {
                long t = x[at + i] % p;
                long q = (t < 0 ? t + p : t) * inverse % p;
                for (int j = 1; i + j < DIGITS; j++) {
                    x[at + i + j] -= q * y[from + j];
                }
                if (i + 1 < DIGITS) {
                    x[at + i + 1] += (x[at + i] - q * y[from]) / p;
                }
                x[at + i] = q;
            }
        }

        /** Divides all by the highest coefficient, whose lowest digit is not 0. */
        void makeMonic(long[] x, int n, long inverse) {
            int lead = n * DIGITS;
            boolean isOne = x[lead] == 1;
            for (int i = 1; i < DIGITS; i++) {
                isOne = isOne && x[lead + i] == 0;
            }
            if (isOne) {
                return;
            }
            for (int j = 0; j < n; j++) {
                divide(x, j * DIGITS, x, lead, inverse);
            }
            for (int i = 0; i < DIGITS; i++) {
                x[lead + i] = i == 0 ? 1 : 0;
            }
        }

        /** The product with so many digits of each coefficient. */
        void multiply(long[] x, int n, long[] y, int m, long[] to, int digits) {
            for (int i = 0; i < (n + m + 1) * DIGITS; i++) {
                to[i] = 0;
            }
            for (int i = 0; i <= n; i++) {
                for (int j = 0; j <= m; j++) {
                    addProduct(to, (i + j) * DIGITS, x, i * DIGITS, y, j * DIGITS, digits);
                }
            }
            for (int k = 0; k <= n + m; k++) {
                long carry = 0;
                for (int i = k * DIGITS; i < k * DIGITS + digits; i++) {
                    long t = to[i] + carry;
                    carry = t / p;
                    to[i] = t - carry * p;
                }
            }
        }

        /** Without carries, which come when all is added. */
        private void addProduct(long[] to, int at, long[] x, int xAt, long[] y, int yAt, int digits) {
            for (int i = 0; i < digits; i++) {
                long f = x[xAt + i];
                if (f != 0) {
                    for (int j = 0; i + j < digits; j++) {
                        to[at + i + j] += f * y[yAt + j];
                    }
                }
            }
        }

        /** A coefficient times a factor from 1 to 2^31 - 1, the residue that is nearest to 0. */
        long residue(long[] x, int at, int factor) {
            long carry = 0;
            long sum = 0;
            long power = 1;
            for (int i = 0; i < DIGITS; i++) {
                long t = x[at + i] * factor + carry;
                carry = t / p;
                sum += (t - carry * p) * power;
                power *= p;
            }
            return sum < 0 || sum > modulus >>> 1 ? sum - modulus : sum;
        }

        /**
         * The denominator of the fraction with both parts at most 2^31 - 1 that has this residue, 0 when there is
         * none. The modulus takes all 64 bits, so that the first division is done by its half.
         */
        int denominator(long residue) {
            long less = residue < 0 ? -residue : residue;
            if (less <= LIMIT) {
                return 1;
            }
            long half = modulus >>> 1;
            long q = 2 * (half / less);
            long left = half % less;
            if (left >= less - left) {
                left -= less - left;
                q++;
            } else {
                left += left;
            }
            left++;
            if (left == less) {
                left = 0;
                q++;
            }
            long high = less;
            long before = 1;
            long now = q;
            for (int i = 0; i < 100 && left > LIMIT; i++) {
                q = high / left;
                long kept = high % left;
                high = left;
                left = kept;
                kept = before + q * now;
                before = now;
                now = kept;
            }
            return now <= LIMIT ? (int) now : 0;
        }
    }

    /**
     * Searches the factors of a polynomial that may belong to a value: Berlekamp's way, and Hensel's lifting.
     *
     * A prime does not serve when it divides the highest coefficient, or the discriminant of the polynomial with each
     * factor once. For the greatest polynomials at hand (degree 12, roots that are sums of two values') these two have
     * less than 6300 bits, so that fewer than 400 of the 728 primes from FIRST_PRIME on do not serve.
     */
    private static final class Factors {
        private static final int FIRST_PRIME = 57347;
        private static final int PRIME_END = 65536;
        private static final int MOST_PRIMES = 728;
        private static final int MOST_BITS = 32 * Poly.ROOM - 17;
        private static final int TRIES = 3;
        private static final int FEW_PARTS = 4;

        private final Field field;
        private final Padic padic;
        private final Big modulus;
        private final long[] whole;
        private final long[] spare;
        private final long[] base;
        private final long[] row;
        private final long[] mix;
        private final long[] error;
        private final long[][] matrix;
        private final long[][] basis;
        private final long[][] pieces;
        private final long[][] inverses;
        private final long[][] lifts;
        private final long[] product;
        private final int[] sizes;
        private int degree;
        private int parts;
        private int alive;
        private int mask;

        Factors() {
            field = new Field();
            padic = new Padic();
            modulus = new Big(Poly.ROOM);
            whole = new long[Padic.ROOM];
            spare = new long[Padic.ROOM];
            base = new long[Field.ROOM];
            row = new long[Field.ROOM];
            mix = new long[Field.ROOM];
            error = new long[Field.ROOM];
            matrix = new long[Poly.MOST][Poly.MOST];
            basis = new long[Poly.MOST][Poly.MOST];
            pieces = new long[Poly.MOST][Poly.MOST + 1];
            inverses = new long[Poly.MOST][Poly.MOST + 1];
            lifts = new long[Poly.MOST][Padic.ROOM];
            product = new long[Padic.ROOM];
            sizes = new int[Poly.MOST];
        }

        private static int primeAbove(int prime) {
            int next = prime + 2;
            while (next < PRIME_END && hasDivisor(next)) {
                next += 2;
            }
            return next;
        }

        /** Of an odd number between 2^8 and 2^16. */
        private static boolean hasDivisor(int odd) {
            for (int d = 3; d < 256; d += 2) {
                if (odd % d == 0) {
                    return true;
                }
            }
            return false;
        }

        /**
         * Leaves each multiple factor of r once, exactly. With r' the derivative and g its common divisor with r, both
         * r / g and r' / g (times the highest coefficient of r) are gathered from their residues modulo primes.
         *
         * A prime shows at most as many different roots as there are, so the primes that show the most are right, and
         * one that shows no multiple root ends the matter. That r divides (r / g) r', and so r / g has all roots of r,
         * is proved when both sides of (r / g) r' = r (r' / g) are too small to be the same modulo all these primes
         * only.
         */
        void makeSquareFree(Poly r, Poly once, Poly slope) {
            once.degree = 0;
            int prime = FIRST_PRIME;
            for (int i = 0; i < MOST_PRIMES && prime < PRIME_END; i++) {
                int repeated = loadResidues(r, prime);
                if (repeated == 0) {
                    return;
                }
                if (repeated > 0 && degree > once.degree) {
                    startGathering(once, slope);
                }
                if (repeated > 0 && degree == once.degree && modulus.bits() < MOST_BITS) {
                    gather(r.c[r.degree].residue(prime), once, slope);
                    if (r.mostBits() + Math.max(once.mostBits(), slope.mostBits()) + 10 <= modulus.bits()) {
                        r.set(once);
                        return;
                    }
                }
                prime = primeAbove(prime);
            }
        }

        /**
         * The residues of r over its highest coefficient: r / g in base, and r' / g in row. How many multiple roots
         * are left out, -1 when the prime divides the highest coefficient.
         */
        private int loadResidues(Poly r, int prime) {
            int n = r.degree;
            field.p = prime;
            int lead = r.c[n].residue(prime);
            if (lead == 0) {
                return -1;
            }
            long f = field.inverse(lead);
            for (int j = 0; j <= n; j++) {
                base[j] = r.c[j].residue(prime) * f % prime;
                if (j > 0) {
                    row[j - 1] = base[j] * j % prime;
                }
            }
            int repeated = field.euclid(base, n, row, n - 1);
            if (repeated > 0) {
                System.arraycopy(field.common, 0, mix, 0, repeated + 1);
                field.divide(base, n, mix, repeated, base);
                field.divide(row, n - 1, mix, repeated, row);
            }
            degree = n - repeated;
            return repeated;
        }

        private void startGathering(Poly once, Poly slope) {
            modulus.setLong(1);
            once.degree = degree;
            slope.degree = degree - 1;
            for (int j = 0; j <= degree; j++) {
                once.c[j].setLong(0);
                slope.c[j].setLong(0);
            }
        }

        /** Makes the gathered coefficients right modulo the prime at hand, too; they are those nearest to 0. */
        private void gather(int lead, Poly once, Poly slope) {
            long inverse = field.inverse(modulus.residue(field.p));
            for (int j = 0; j <= degree; j++) {
                gatherOne(once.c[j], base[j] * lead, inverse);
                if (j < degree) {
                    gatherOne(slope.c[j], row[j] * lead, inverse);
                }
            }
            modulus.scale(field.p);
        }

        private void gatherOne(Big c, long due, long inverse) {
            long off = (due - c.residue(field.p)) % field.p;
            long times = (off < 0 ? off + field.p : off) * inverse % field.p;
            c.addTimes(modulus, (int) (2 * times > field.p ? times - field.p : times));
        }

        /** Readies the search for the factors of a polynomial without multiple ones: a prime that leaves few parts. */
        boolean prepare(Poly r) {
            int best = 0;
            int tries = 0;
            int fewest = Poly.MOST + 1;
            int prime = FIRST_PRIME;
            for (int i = 0; i < MOST_PRIMES && prime < PRIME_END && tries < TRIES && fewest > FEW_PARTS; i++) {
                if (loadResidues(r, prime) == 0) {
                    tries++;
                    countParts();
                    if (parts < fewest) {
                        best = prime;
                        fewest = parts;
                    }
                }
                prime = primeAbove(prime);
            }
            if (best == 0) {
                return false;
            }
            if (best != field.p) {
                loadResidues(r, best);
                countParts();
            }
            return loadMonic(r);
        }

        private boolean loadMonic(Poly r) {
            padic.setPrime(field.p);
            for (int j = 0; j <= r.degree; j++) {
                padic.load(r.c[j], whole, j * Padic.DIGITS);
            }
            long lead = whole[r.degree * Padic.DIGITS];
            if (lead == 0) {
                return false;
            }
            padic.makeMonic(whole, r.degree, field.inverse(lead));
            return true;
        }

        /** Berlekamp: the polynomials v with v to the p the same as v; there are as many parts as their dimension. */
        private void countParts() {
            for (int i = 0; i < degree; i++) {
                row[i] = i == 1 ? 1 : 0;
            }
            if (degree == 1) {
                row[0] = field.negative(base[0]);
            }
            field.raise(row, field.p, base, degree, mix);
            for (int i = 0; i < degree; i++) {
                row[i] = i == 0 ? 1 : 0;
            }
            for (int i = 0; i < degree; i++) {
                for (int j = 0; j < degree; j++) {
                    matrix[j][i] = row[j];
                }
                matrix[i][i] = (matrix[i][i] + field.p - 1) % field.p;
                field.multiply(row, mix, base, degree, row);
            }
            solve();
        }

        /** The null space of the matrix: a row of the basis for each column without a pivot. */
        private void solve() {
            int rank = 0;
            parts = 0;
            int open = 0;
            for (int col = 0; col < degree; col++) {
                int pivot = rank;
                while (pivot < degree && matrix[pivot][col] == 0) {
                    pivot++;
                }
                if (pivot == degree) {
                    open |= 1 << col;
                } else {
                    eliminate(pivot, rank, col);
                    sizes[rank] = col;
                    rank++;
                }
            }
            for (int col = 0; col < degree; col++) {
                if ((open >> col & 1) != 0) {
                    for (int i = 0; i < degree; i++) {
                        basis[parts][i] = i == col ? 1 : 0;
                    }
                    for (int i = 0; i < rank; i++) {
                        basis[parts][sizes[i]] = field.negative(matrix[i][col]);
                    }
                    parts++;
                }
            }
        }

        private void eliminate(int pivot, int rank, int col) {
            long f = field.inverse(matrix[pivot][col]);
            for (int j = 0; j < degree; j++) {
                long v = matrix[pivot][j] * f % field.p;
                matrix[pivot][j] = matrix[rank][j];
                matrix[rank][j] = v;
            }
            for (int i = 0; i < degree; i++) {
                long q = matrix[i][col];
                if (i != rank && q != 0) {
                    for (int j = col; j < degree; j++) {
                        matrix[i][j] = (matrix[i][j] + (field.p - q) * matrix[rank][j]) % field.p;
                    }
                }
            }
        }

        /** Splits and lifts; false when no factor can have a degree that a value has. */
        boolean begin() {
            if (parts == 1 && degree > HIGHEST) {
                return false;
            }
            System.arraycopy(base, 0, pieces[0], 0, degree + 1);
            sizes[0] = degree;
            split();
            if (parts == 1) {
                System.arraycopy(whole, 0, lifts[0], 0, Padic.ROOM);
            } else {
                lift();
            }
            alive = (1 << parts) - 1;
            mask = 0;
            return true;
        }

        /**
         * Modulo every part each row of the basis is a number, and for two parts some row has different ones. As the
         * squares are not the same when all are shifted, some shift of that row tells the two parts apart. The first
         * row is 1.
         */
        private void split() {
            int count = 1;
            for (int shift = 0; shift < field.p && count < parts; shift++) {
                for (int k = 1; k < parts && count < parts; k++) {
                    System.arraycopy(basis[k], 0, mix, 0, degree);
                    mix[0] = (mix[0] + shift) % field.p;
                    int had = count;
                    for (int i = 0; i < had && count < parts; i++) {
                        if (splits(i, count)) {
                            count++;
                        }
                    }
                }
            }
        }

        /** Where the mix is a square modulo some parts of a piece and none modulo others, the piece falls apart. */
        private boolean splits(int i, int next) {
            int d = sizes[i];
            long[] piece = pieces[i];
            System.arraycopy(mix, 0, row, 0, degree);
            field.reduce(row, degree - 1, piece, d);
            if (next >= Poly.MOST || isNumber(row, d)) {
                return false;
            }
            field.raise(row, (field.p - 1) / 2, piece, d, error);
            error[0] = (error[0] + field.p - 1) % field.p;
            int g = field.euclid(piece, d, error, d - 1);
            if (g < 1 || g >= d) {
                return false;
            }
            System.arraycopy(field.common, 0, row, 0, g + 1);
            field.divide(piece, d, row, g, pieces[next]);
            sizes[next] = d - g;
            System.arraycopy(row, 0, piece, 0, g + 1);
            sizes[i] = g;
            return true;
        }

        private static boolean isNumber(long[] a, int d) {
            for (int i = 1; i < d; i++) {
                if (a[i] != 0) {
                    return false;
                }
            }
            return true;
        }

        /** Hensel: one more digit of all parts in each round. */
        private void lift() {
            for (int i = 0; i < parts; i++) {
                startLift(i, sizes[i]);
            }
            for (int digit = 1; digit < Padic.DIGITS; digit++) {
                multiplyParts((1 << parts) - 1, digit + 1);
                for (int j = 0; j < degree; j++) {
                    int at = j * Padic.DIGITS + digit;
                    error[j] = (whole[at] - product[at] + field.p) % field.p;
                }
                for (int i = 0; i < parts; i++) {
                    correct(i, sizes[i], digit);
                }
            }
        }

        /** The inverse of the other parts' product modulo the part tells its share of an error. */
        private void startLift(int i, int d) {
            int rest = degree - d;
            field.divide(base, degree, pieces[i], d, row);
            field.reduce(row, rest, pieces[i], d);
            field.euclid(pieces[i], d, row, Math.min(rest, d - 1));
            System.arraycopy(field.cofactor, 0, inverses[i], 0, d);
            for (int j = 0; j < Padic.ROOM; j++) {
                lifts[i][j] = 0;
            }
            for (int j = 0; j <= d; j++) {
                lifts[i][j * Padic.DIGITS] = pieces[i][j];
            }
        }

        private void correct(int i, int d, int digit) {
            System.arraycopy(error, 0, row, 0, degree);
            field.reduce(row, degree - 1, pieces[i], d);
            field.multiply(row, inverses[i], pieces[i], d, row);
            for (int j = 0; j < d; j++) {
                lifts[i][j * Padic.DIGITS + digit] = row[j];
            }
        }

        /** The degree of the product of these parts, which is left in product. */
        private int multiplyParts(int which, int digits) {
            int d = 0;
            for (int i = 0; i < parts; i++) {
                if ((which >> i & 1) != 0) {
                    if (d == 0) {
                        System.arraycopy(lifts[i], 0, product, 0, Padic.ROOM);
                    } else {
                        System.arraycopy(product, 0, spare, 0, (d + 1) * Padic.DIGITS);
                        padic.multiply(spare, d, lifts[i], sizes[i], product, digits);
                    }
                    d += sizes[i];
                }
            }
            return d;
        }

        /**
         * The next product of parts that may be a value's polynomial, the ones of fewer parts first. What divides then
         * has no divisor itself: of several factors at most one can have a greater coefficient than a value has, when
         * the product has none, so the others would have been found and removed before.
         */
        boolean next(Value to) {
            int all = 1 << parts;
            int few = Math.max(1, Integer.bitCount(mask));
            for (int count = few; count <= HIGHEST && count <= parts; count++) {
                for (int m = count == few ? mask + 1 : 1; m < all; m++) {
                    if (Integer.bitCount(m) == count && (m & ~alive) == 0 && degreeOf(m) <= HIGHEST && isLikely(m)) {
                        int d = multiplyParts(m, Padic.DIGITS);
                        if (reconstruct(product, d, to)) {
                            mask = m;
                            return true;
                        }
                    }
                }
            }
            return false;
        }

        /**
         * Whether the second highest and the lowest coefficient of a product of parts may be those of a value's
         * polynomial, which few false products pass; the one is a sum, the other a product of the parts' own.
         */
        private boolean isLikely(int which) {
            for (int k = 0; k < Padic.DIGITS; k++) {
                mix[k] = 0;
                for (int i = 0; i < parts; i++) {
                    mix[k] += (which >> i & 1) != 0 ? lifts[i][(sizes[i] - 1) * Padic.DIGITS + k] : 0;
                }
                product[k] = k == 0 ? 1 : 0;
            }
            int q = padic.denominator(padic.residue(mix, 0, 1));
            for (int i = 0; i < parts && q != 0; i++) {
                if ((which >> i & 1) != 0) {
                    System.arraycopy(product, 0, spare, 0, Padic.DIGITS);
                    padic.multiply(spare, 0, lifts[i], 0, product, Padic.DIGITS);
                }
            }
            int r = q == 0 ? 0 : padic.denominator(padic.residue(product, 0, q));
            return r != 0 && (long) q * r <= LIMIT;
        }

        /** The parts of the latest product belong to a factor that is known now. */
        void remove() {
            alive &= ~mask;
        }

        private int degreeOf(int which) {
            int d = 0;
            for (int i = 0; i < parts; i++) {
                d += (which >> i & 1) != 0 ? sizes[i] : 0;
            }
            return d;
        }

        /** The polynomial without content that the digits of one with highest coefficient 1 belong to. */
        private boolean reconstruct(long[] x, int d, Value to) {
            int lead = 1;
            for (int j = d - 1; j >= 0; j--) {
                int q = padic.denominator(padic.residue(x, j * Padic.DIGITS, lead));
                if (q == 0 || (long) q * lead > LIMIT) {
                    return false;
                }
                lead *= q;
            }
            for (int j = 0; j < d; j++) {
                long c = padic.residue(x, j * Padic.DIGITS, lead);
                if (c > LIMIT || c < -LIMIT) {
                    return false;
                }
                to.c[j] = (int) c;
            }
            to.c[d] = lead;
            to.degree = d;
            return true;
        }

        /** For a polynomial that is known to have no factors: the value's polynomial that it is a multiple of. */
        boolean reduceWhole(Poly r, Value to) {
            if (r.degree > HIGHEST) {
                return false;
            }
            int prime = FIRST_PRIME;
            for (int i = 0; i < MOST_PRIMES && prime < PRIME_END; i++) {
                field.p = prime;
                if (loadMonic(r)) {
                    return reconstruct(whole, r.degree, to);
                }
                prime = primeAbove(prime);
            }
            return false;
        }
    }
}
