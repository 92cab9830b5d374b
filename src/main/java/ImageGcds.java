import java.util.Arrays;

/**
 * Polynomials in up to three letters over the numbers modulo 32003.
 *
 * Inside, a power is held as a KEY: its exponents as hexadecimal digits, letter 0 in front, so that
 * one power is above another just when its key is greater. A TABLE is a row of numbers with one
 * place for each key; sixteen places in a row of it are a BLOCK, the numbers at the powers of the
 * last letter.
 */
public final class ImageGcds {
    private static final int PRIME = 32003;
    private static final int MOST_POLYS = 60;
    private static final int MOST_LETTERS = 3;
    private static final int MOST_TERMS = 4096;
    private static final int MOST_OFTEN = 45;
    private static final int SPAN = 16;
    private static final int HIGHEST = 15;

    private final int letters;
    private final Poly[] polys;
    private int made;
    private Bench bench;

    public ImageGcds(int n) {
        letters = n < 1 ? 1 : n > MOST_LETTERS ? MOST_LETTERS : n;
        polys = new Poly[MOST_POLYS];
        made = 0;
    }

    public int poly() throws IllegalStateException {
        requireRoom();
        return keep(new Poly(0));
    }

    public boolean term(int p, long above, long below, int power)
            throws IndexOutOfBoundsException, IllegalArgumentException, ArithmeticException {
        Poly poly = held(p);
        if (power < 0 || power >= 1 << 4 * letters) {
            throw new IllegalArgumentException("no such power");
        }
        int divisor = Numbers.modulo(below);
        if (divisor == 0) {
            throw new ArithmeticException("through 0");
        }
        int number = Numbers.modulo(above) * Numbers.inverse(divisor) % PRIME;
        return poly.put(mirrored(power), number);
    }

    public int add(int a, int b) throws IndexOutOfBoundsException, IllegalStateException {
        Poly first = held(a);
        Poly second = held(b);
        requireRoom();
        return keep(Poly.sum(first, second));
    }

    public int times(int a, int b)
            throws IndexOutOfBoundsException, IllegalStateException, IllegalArgumentException {
        Poly first = held(a);
        Poly second = held(b);
        requireRoom();
        requireLowProduct(first, second);
        return keep(bench().product(first, second));
    }

    public int over(int a, int b) throws IndexOutOfBoundsException, IllegalStateException {
        Poly first = held(a);
        Poly second = held(b);
        requireRoom();
        Poly quotient = bench().quotient(first, second);
        return quotient == null ? -1 : keep(quotient);
    }

    public int gcd(int a, int b) throws IndexOutOfBoundsException, IllegalStateException {
        Poly first = held(a);
        Poly second = held(b);
        requireRoom();
        return keep(bench().greatestDivisor(first, second));
    }

    public int resultant(int a, int b, int letter)
            throws IndexOutOfBoundsException, IllegalStateException, IllegalArgumentException {
        Poly first = held(a);
        Poly second = held(b);
        requireRoom();
        requireLetter(letter);
        requireLowResultant(first, second, letter);
        return keep(bench().withoutLetter(first, second, shiftOf(letter)));
    }

    public int slope(int a, int letter)
            throws IndexOutOfBoundsException, IllegalStateException, IllegalArgumentException {
        Poly poly = held(a);
        requireRoom();
        requireLetter(letter);
        return keep(poly.derived(shiftOf(letter)));
    }

    public int content(int a, int letter)
            throws IndexOutOfBoundsException, IllegalStateException, IllegalArgumentException {
        Poly poly = held(a);
        requireRoom();
        requireLetter(letter);
        return keep(bench().sharedByCoefficients(poly, shiftOf(letter)));
    }

    public int part(int a, int k)
            throws IndexOutOfBoundsException, IllegalStateException, IllegalArgumentException {
        Poly poly = held(a);
        requireRoom();
        if (poly.size == 0 || k < 1 || k > MOST_OFTEN) {
            throw new IllegalArgumentException("no such part");
        }
        return keep(bench().factorsStanding(poly, k));
    }

    public int image(int a, int letter, int v)
            throws IndexOutOfBoundsException, IllegalStateException, IllegalArgumentException {
        Poly poly = held(a);
        requireRoom();
        requireLetter(letter);
        return keep(bench().withNumber(poly, shiftOf(letter), Numbers.modulo(v)));
    }

    public boolean equal(int a, int b) throws IndexOutOfBoundsException {
        Poly first = held(a);
        Poly second = held(b);
        return first.isSameAs(second);
    }

    public int terms(int p) throws IndexOutOfBoundsException {
        return held(p).size;
    }

    public int at(int p, int k, int what) throws IndexOutOfBoundsException, IllegalArgumentException {
        Poly poly = held(p);
        if (k < 0 || k >= poly.size || what < 0 || what > 1) {
            throw new IllegalArgumentException("no such term or another what");
        }
        return what == 0 ? poly.numbers[k] : mirrored(poly.keys[k]);
    }

    public int degree(int p, int letter) throws IndexOutOfBoundsException, IllegalArgumentException {
        Poly poly = held(p);
        requireLetter(letter);
        return poly.highest(shiftOf(letter));
    }

    public int count() {
        return made;
    }

    private Poly held(int p) {
        if (p < 0 || p >= made || polys[p] == null) {
            throw new IndexOutOfBoundsException("no such polynomial");
        }
        return polys[p];
    }

    private void requireRoom() {
        if (made >= MOST_POLYS) {
            throw new IllegalStateException("60 polynomials are there");
        }
    }

    private void requireLetter(int letter) {
        if (letter < 0 || letter >= letters) {
            throw new IllegalArgumentException("no such letter");
        }
    }

    private void requireLowProduct(Poly a, Poly b) {
        if (a.size == 0 || b.size == 0) {
            return;
        }
        for (int letter = 0; letter < letters; letter++) {
            if (a.highest(shiftOf(letter)) + b.highest(shiftOf(letter)) > HIGHEST) {
                throw new IllegalArgumentException("an exponent of the product is above 15");
            }
        }
    }

    private void requireLowResultant(Poly a, Poly b, int letter) {
        for (int other = 0; other < letters; other++) {
            if (other != letter && Poly.reach(a, b, shiftOf(letter), shiftOf(other)) > HIGHEST) {
                throw new IllegalArgumentException("an exponent of the resultant may be above 15");
            }
        }
    }

    private int keep(Poly poly) {
        if (made < polys.length) {
            polys[made] = poly;
            made++;
        }
        return made - 1;
    }

    /** The bench is made late, so that an object that only holds polynomials stays small. */
    private Bench bench() {
        if (bench == null) {
            bench = new Bench(letters);
        }
        return bench;
    }

    /** How far to the right a letter's exponent has to go to stand last in a key. */
    private int shiftOf(int letter) {
        return 4 * (letters - 1 - letter);
    }

    /** The key of a power, and the power of a key: the same digits from the other end. */
    private int mirrored(int digits) {
        int answer = 0;
        for (int letter = 0; letter < letters; letter++) {
            answer = answer << 4 | (digits >> 4 * letter & HIGHEST);
        }
        return answer;
    }

    /** Numbers modulo 32003; the product of two of them, and one more, fit into an int. */
    private static final class Numbers {
        static int modulo(long x) {
            int rest = (int) (x % PRIME);
            return rest < 0 ? rest + PRIME : rest;
        }

        static int raised(int base, int exponent) {
            int answer = 1;
            for (int i = 0; i < exponent; i++) {
                answer = answer * base % PRIME;
            }
            return answer;
        }

        /** By Euclid's steps, of which numbers of 15 bits need fewer than 40; 0 answers 0. */
        static int inverse(int x) {
            int high = PRIME;
            int low = x;
            int highFactor = 0;
            int lowFactor = 1;
            for (int step = 0; step < 40 && low > 1; step++) {
                int quotient = high / low;
                int rest = high - quotient * low;
                int factor = highFactor - quotient * lowFactor;
                high = low;
                low = rest;
                highFactor = lowFactor;
                lowFactor = factor;
            }
            if (low != 1) {
                return 0;
            }
            return lowFactor < 0 ? lowFactor + PRIME : lowFactor;
        }
    }

    /** A polynomial as it is kept: its terms alone, the head first. */
    private static final class Poly {
        private int size;
        private int[] keys;
        private int[] numbers;

        Poly(int room) {
            int length = room < 0 ? 0 : room;
            size = 0;
            keys = new int[length];
            numbers = new int[length];
        }

        static Poly one() {
            Poly answer = new Poly(1);
            answer.append(0, 1);
            return answer;
        }

        static Poly sum(Poly a, Poly b) {
            Poly answer = new Poly(Math.min(a.size + b.size, MOST_TERMS));
            int i = 0;
            int j = 0;
            while (i < a.size || j < b.size) {
                if (j >= b.size || i < a.size && a.keys[i] > b.keys[j]) {
                    answer.append(a.keys[i], a.numbers[i]);
                    i++;
                } else if (i >= a.size || b.keys[j] > a.keys[i]) {
                    answer.append(b.keys[j], b.numbers[j]);
                    j++;
                } else {
                    answer.append(a.keys[i], (a.numbers[i] + b.numbers[j]) % PRIME);
                    i++;
                    j++;
                }
            }
            return answer;
        }

        /** The greatest exponent that the resultant at one letter may have at another one. */
        static int reach(Poly a, Poly b, int shift, int otherShift) {
            int byFirst = Math.max(0, a.highest(shift)) * Math.max(0, b.highest(otherShift));
            int bySecond = Math.max(0, b.highest(shift)) * Math.max(0, a.highest(otherShift));
            return byFirst + bySecond;
        }

        /** For terms that come in order, each below the last one; a number 0 makes no term. */
        void append(int key, int number) {
            if (number == 0) {
                return;
            }
            widen();
            keys[size] = key;
            numbers[size] = number;
            size++;
        }

        /** Sets the number at a key and tells whether that was another one. */
        boolean put(int key, int number) {
            int place = placeOf(key);
            boolean there = place < size && keys[place] == key;
            if (there && numbers[place] == number || !there && number == 0) {
                return false;
            }
            if (there && number != 0) {
                numbers[place] = number;
            } else if (there) {
                takeOut(place);
            } else {
                insert(place, key, number);
            }
            return true;
        }

        int highest(int shift) {
            int answer = -1;
            for (int i = 0; i < size; i++) {
                answer = Math.max(answer, keys[i] >> shift & HIGHEST);
            }
            return answer;
        }

        /** All keys with that exponent go down by the same amount, so the order stays. */
        Poly derived(int shift) {
            Poly answer = new Poly(size);
            for (int i = 0; i < size; i++) {
                int exponent = keys[i] >> shift & HIGHEST;
                if (exponent > 0) {
                    answer.append(keys[i] - (1 << shift), numbers[i] * exponent % PRIME);
                }
            }
            return answer;
        }

        boolean isSameAs(Poly other) {
            if (size != other.size) {
                return false;
            }
            for (int i = 0; i < size; i++) {
                if (keys[i] != other.keys[i] || numbers[i] != other.numbers[i]) {
                    return false;
                }
            }
            return true;
        }

        private int placeOf(int key) {
            int place = 0;
            while (place < size && keys[place] > key) {
                place++;
            }
            return place;
        }

        private void insert(int place, int key, int number) {
            widen();
            System.arraycopy(keys, place, keys, place + 1, size - place);
            System.arraycopy(numbers, place, numbers, place + 1, size - place);
            keys[place] = key;
            numbers[place] = number;
            size++;
        }

        private void takeOut(int place) {
            size--;
            System.arraycopy(keys, place + 1, keys, place, size - place);
            System.arraycopy(numbers, place + 1, numbers, place, size - place);
        }

        private void widen() {
            if (size >= keys.length) {
                keys = Arrays.copyOf(keys, 2 * size + 4);
                numbers = Arrays.copyOf(numbers, 2 * size + 4);
            }
        }
    }

    /** What is done with whole tables. */
    private static final class Tables {
        /** The greatest key with a number that isn't 0; -1 if there is none. */
        static int head(int[] table) {
            int key = table.length - 1;
            while (key >= 0 && table[key] == 0) {
                key--;
            }
            return key;
        }

        /** The greatest exponent of each letter, written like a key. */
        static int degrees(int[] table, int head) {
            int high = 0;
            int middle = 0;
            int low = 0;
            for (int key = 0; key <= head; key++) {
                if (table[key] != 0) {
                    high = Math.max(high, key & 0xF00);
                    middle = Math.max(middle, key & 0xF0);
                    low = Math.max(low, key & 0xF);
                }
            }
            return high | middle | low;
        }

        /** Whether each exponent of one key is at least that of the other one. */
        static boolean covers(int key, int other) {
            return (key & 0xF00) >= (other & 0xF00)
                    && (key & 0xF0) >= (other & 0xF0)
                    && (key & 0xF) >= (other & 0xF);
        }

        /** Puts v in place of the last letter, whose exponents in the table go up to degree. */
        static void evaluate(int[] table, int head, int degree, int v, int[] out) {
            Arrays.fill(out, 0);
            for (int block = 0; block <= head >> 4 && block < out.length; block++) {
                out[block] = Rows.value(table, block << 4, degree, v);
            }
        }

        static void makeMonic(int[] table) {
            int head = head(table);
            if (head < 0 || table[head] == 1) {
                return;
            }
            int inverse = Numbers.inverse(table[head]);
            for (int key = 0; key <= head; key++) {
                table[key] = table[key] * inverse % PRIME;
            }
        }

        static void makeOne(int[] table) {
            Arrays.fill(table, 0);
            if (table.length > 0) {
                table[0] = 1;
            }
        }
    }

    /** Polynomials in one letter, as blocks of sixteen numbers. */
    private static final class Rows {
        private final int[] first = new int[SPAN];
        private final int[] second = new int[SPAN];

        static int value(int[] table, int from, int degree, int v) {
            int answer = 0;
            for (int i = from + degree; i >= from; i--) {
                answer = (answer * v + table[i]) % PRIME;
            }
            return answer;
        }

        static int topOf(int[] table, int from) {
            int top = HIGHEST;
            while (top >= 0 && table[from + top] == 0) {
                top--;
            }
            return top;
        }

        /** The monic greatest divisor of two blocks; answers its degree. out may be one of the two. */
        int common(int[] x, int xFrom, int[] y, int yFrom, int[] out) {
            System.arraycopy(x, xFrom, first, 0, SPAN);
            System.arraycopy(y, yFrom, second, 0, SPAN);
            int[] high = first;
            int[] low = second;
            int lowTop = topOf(low, 0);
            for (int step = 0; step < 2 * SPAN && lowTop >= 0; step++) {
                int inverse = Numbers.inverse(low[lowTop]);
                for (int i = HIGHEST; i >= lowTop; i--) {
                    cancel(high, i, low, lowTop, high[i] * inverse % PRIME);
                }
                int[] rest = high;
                high = low;
                low = rest;
                lowTop = topOf(low, 0);
            }
            int top = topOf(high, 0);
            int scale = top < 0 ? 0 : Numbers.inverse(high[top]);
            for (int i = 0; i < SPAN; i++) {
                out[i] = high[i] * scale % PRIME;
            }
            return top;
        }

        /** Takes factor times the lower row, moved up to the place i, away from the higher one. */
        private static void cancel(int[] high, int i, int[] low, int lowTop, int factor) {
            if (factor == 0) {
                return;
            }
            int from = i - lowTop;
            for (int j = 0; j <= lowTop; j++) {
                high[from + j] = (high[from + j] + (PRIME - factor) * low[j]) % PRIME;
            }
        }

        /** Divides the greatest divisor of all blocks of a table out of them; leaves it in divisor. */
        void strip(int[] table, int head, int[] divisor) {
            Arrays.fill(divisor, 0);
            int last = head >> 4 << 4;
            int top = -1;
            for (int from = last; from >= 0 && top != 0; from -= SPAN) {
                if (topOf(table, from) >= 0) {
                    top = common(divisor, 0, table, from, divisor);
                }
            }
            for (int from = last; from >= 0 && top > 0; from -= SPAN) {
                divideBlock(table, from, divisor, top);
            }
        }

        /** The divisor is monic and a factor of the block. */
        private static void divideBlock(int[] table, int from, int[] divisor, int top) {
            for (int i = HIGHEST; i >= top; i--) {
                int factor = table[from + i];
                for (int j = 0; j < top && factor != 0; j++) {
                    int place = from + i - top + j;
                    table[place] = (table[place] + (PRIME - factor) * divisor[j]) % PRIME;
                }
            }
            System.arraycopy(table, from + top, table, from, SPAN - top);
            for (int i = SPAN - top; i < SPAN; i++) {
                table[from + i] = 0;
            }
        }

        /** Multiplies each block of a table; what would go above the exponent 15 isn't there. */
        static void multiplyBlocks(int[] table, int[] factor) {
            int top = topOf(factor, 0);
            for (int from = 0; from + SPAN <= table.length && top > 0; from += SPAN) {
                for (int i = HIGHEST - top; i >= 0; i--) {
                    int number = table[from + i];
                    table[from + i] = 0;
                    for (int j = 0; j <= top && number != 0; j++) {
                        int place = from + i + j;
                        table[place] = (table[place] + number * factor[j]) % PRIME;
                    }
                }
            }
        }

        /**
         * The determinant of the resultant of two rows that count as of degrees m and k even where
         * their numbers there are 0, as in an image. A number 0 in front leaves one number alone in
         * the first column, which can then be taken out with its row.
         */
        int determinant(int[] x, int m, int[] y, int k) {
            System.arraycopy(x, 0, first, 0, SPAN);
            System.arraycopy(y, 0, second, 0, SPAN);
            int answer = 1;
            int i = m;
            int j = k;
            for (int step = 0; step < 4 * SPAN && i > 0 && j > 0; step++) {
                int a = first[i];
                int b = second[j];
                if (a == 0 && b == 0) {
                    return 0;
                }
                if (a == 0) {
                    answer = answer * ((j & 1) == 0 ? b : PRIME - b) % PRIME;
                    i--;
                } else if (b == 0) {
                    answer = answer * a % PRIME;
                    j--;
                } else if (i >= j) {
                    cancel(first, i, second, j, a * Numbers.inverse(b) % PRIME);
                } else {
                    cancel(second, j, first, i, b * Numbers.inverse(a) % PRIME);
                }
            }
            int last = i == 0 ? Numbers.raised(first[0], j) : Numbers.raised(second[0], i);
            return answer * last % PRIME;
        }
    }

    /** A table that grows, point by point, into the one whose images at the points are given. */
    private static final class Curve {
        private final int[] sum;
        private final int[] product;
        private int points;

        Curve(int size) {
            sum = new int[size];
            product = new int[SPAN + 1];
            points = 0;
        }

        void clear() {
            Arrays.fill(sum, 0);
            Arrays.fill(product, 0);
            product[0] = 1;
            points = 0;
        }

        /**
         * Makes the image at v (no point of before) factor times the values, which are 0 behind
         * last; tells whether the table had to change for it.
         */
        boolean take(int[] values, int last, int factor, int v) {
            if (points >= SPAN) {
                return false;
            }
            boolean moved = false;
            int inverse = Numbers.inverse(Rows.value(product, 0, points, v));
            for (int block = 0; block <= last; block++) {
                int from = block << 4;
                int missing = values[block] * factor % PRIME + PRIME - Rows.value(sum, from, points - 1, v);
                int step = missing % PRIME * inverse % PRIME;
                if (step != 0) {
                    moved = true;
                    raise(from, step);
                }
            }
            multiplyProduct(v);
            points++;
            return moved;
        }

        private void raise(int from, int step) {
            for (int i = 0; i <= points; i++) {
                sum[from + i] = (sum[from + i] + step * product[i]) % PRIME;
            }
        }

        private void multiplyProduct(int v) {
            int minus = PRIME - v;
            for (int i = points + 1; i > 0; i--) {
                product[i] = (product[i - 1] + product[i] * minus) % PRIME;
            }
            product[0] = product[0] * minus % PRIME;
        }
    }

    /** Division of tables, from the head down. */
    private static final class Divider {
        private final int[] quotient;
        private final int[] rest;
        private final int[] keys;
        private final int[] numbers;
        private int size;

        Divider(int length) {
            quotient = new int[length];
            rest = new int[length];
            keys = new int[length];
            numbers = new int[length];
        }

        /** Whether a is b times a polynomial, which is left in quotient then. */
        boolean split(int[] a, int[] b) {
            Arrays.fill(quotient, 0);
            int aHead = Tables.head(a);
            int bHead = Tables.head(b);
            if (bHead < 0 || aHead < 0) {
                return bHead >= 0;
            }
            int aDegrees = Tables.degrees(a, aHead);
            int bDegrees = Tables.degrees(b, bHead);
            if (!Tables.covers(aDegrees, bDegrees)) {
                return false;
            }
            int room = aDegrees - bDegrees;
            System.arraycopy(a, 0, rest, 0, aHead + 1);
            collect(b, bHead);
            int inverse = Numbers.inverse(b[bHead]);
            for (int key = aHead; key >= 0; key--) {
                if (rest[key] != 0) {
                    // Within the room no sum of two keys carries from one digit into the next.
                    if (!Tables.covers(key, bHead) || !Tables.covers(room, key - bHead)) {
                        return false;
                    }
                    takeAway(key - bHead, rest[key] * inverse % PRIME);
                }
            }
            return true;
        }

        private void collect(int[] table, int head) {
            size = 0;
            for (int key = head; key >= 0; key--) {
                if (table[key] != 0) {
                    keys[size] = key;
                    numbers[size] = table[key];
                    size++;
                }
            }
        }

        private void takeAway(int key, int factor) {
            quotient[key] = factor;
            int minus = PRIME - factor;
            for (int i = 0; i < size; i++) {
                int place = key + keys[i];
                rest[place] = (rest[place] + minus * numbers[i]) % PRIME;
            }
        }
    }

    /** The rows that work with a given number of letters needs, made once. */
    private static final class Floor {
        private final int[] left;
        private final int[] right;
        private final int[] leftImage;
        private final int[] rightImage;
        private final int[] sharedImage;
        private final int[] shared = new int[SPAN];
        private final int[] spare = new int[SPAN];
        private final int[] fronts = new int[SPAN];
        private final Curve curve;
        private final Divider divider;
        private int leftHead;
        private int rightHead;
        private int leftDegree;
        private int rightDegree;

        Floor(int level, Divider divider) {
            int size = 1 << 4 * level;
            this.divider = divider;
            left = new int[size];
            right = new int[size];
            leftImage = new int[size / SPAN];
            rightImage = new int[size / SPAN];
            sharedImage = new int[size / SPAN];
            curve = new Curve(size);
        }

        /** Takes over two tables that aren't 0, without what all their blocks share. */
        void load(int[] x, int xHead, int[] y, int yHead, Rows rows) {
            System.arraycopy(x, 0, left, 0, left.length);
            System.arraycopy(y, 0, right, 0, right.length);
            leftHead = xHead;
            rightHead = yHead;
            rows.strip(left, xHead, shared);
            rows.strip(right, yHead, spare);
            rows.common(shared, 0, spare, 0, shared);
            rows.common(left, xHead >> 4 << 4, right, yHead >> 4 << 4, fronts);
            leftDegree = Tables.degrees(left, xHead) & HIGHEST;
            rightDegree = Tables.degrees(right, yHead) & HIGHEST;
        }

        void lookAt(int v) {
            Tables.evaluate(left, leftHead, leftDegree, v, leftImage);
            Tables.evaluate(right, rightHead, rightDegree, v, rightImage);
        }

        /** Whether the curve, without what all its blocks share, divides both tables; leaves it in out. */
        boolean proves(int[] out, Rows rows) {
            System.arraycopy(curve.sum, 0, out, 0, out.length);
            rows.strip(out, Tables.head(out), spare);
            return divider.split(left, out) && divider.split(right, out);
        }
    }

    /**
     * Work by images: numbers are put in place of the last letter, the same work is done with one
     * letter less, and the answers at enough numbers give the answer.
     */
    private static final class Images {
        private final Rows rows = new Rows();
        private final Floor[] floors;
        private final int[] spans = new int[MOST_LETTERS + 1];
        private int firstDegree;
        private int secondDegree;

        /** The divider for tables of all letters is the bench's own one, to save its rows. */
        Images(int letters, Divider divider) {
            floors = new Floor[letters + 1];
            for (int level = 1; level < letters; level++) {
                floors[level] = new Floor(level, new Divider(1 << 4 * level));
            }
            floors[letters] = new Floor(letters, divider);
        }

        private Floor floorOf(int level) {
            return level < 1 || level >= floors.length ? null : floors[level];
        }

        /** The monic greatest divisor of two tables of as many letters as the level; out is a third. */
        private void greatest(int level, int[] x, int[] y, int[] out) {
            if (level <= 1) {
                rows.common(x, 0, y, 0, out);
                return;
            }
            Floor floor = floorOf(level);
            if (floor == null) {
                return;
            }
            int xHead = Tables.head(x);
            int yHead = Tables.head(y);
            if (xHead < 0 || yHead < 0) {
                System.arraycopy(xHead < 0 ? y : x, 0, out, 0, out.length);
            } else {
                floor.load(x, xHead, y, yHead, rows);
                search(level, floor, out);
                Rows.multiplyBlocks(out, floor.shared);
            }
            Tables.makeMonic(out);
        }

        /**
         * With the divisor's front made the greatest divisor of both fronts, the last letter's
         * exponents in it stay within those of either table, so that one point more than that is
         * enough. Points whose images share more than the tables do are seen by a higher head, or,
         * if there were no others yet, by the division that fails; they are fewer than 1000, so the
         * search ends long before the points do.
         */
        private void search(int level, Floor floor, int[] out) {
            int reach = Math.min(floor.leftDegree, floor.rightDegree);
            int lead = -1;
            for (int v = 0; v < PRIME; v++) {
                int front = Rows.value(floor.fronts, 0, HIGHEST, v);
                if (front == 0) {
                    continue;
                }
                floor.lookAt(v);
                greatest(level - 1, floor.leftImage, floor.rightImage, floor.sharedImage);
                int head = Tables.head(floor.sharedImage);
                if (head <= 0) {
                    break;
                }
                if (lead >= 0 && head > lead) {
                    continue;
                }
                if (head != lead) {
                    floor.curve.clear();
                    lead = head;
                }
                boolean moved = floor.curve.take(floor.sharedImage, head, front, v);
                boolean full = floor.curve.points > reach;
                if ((full || !moved) && floor.proves(out, rows)) {
                    return;
                }
                if (full) {
                    lead = -1;
                }
            }
            Tables.makeOne(out);
        }

        /**
         * The resultant at the first letter of two tables of as many letters as the level, a table
         * of one letter less. The degrees at the first letter and, for each level, how far the
         * answer reaches at its last letter are set before.
         */
        private void eliminate(int level, int[] x, int[] y, int[] out) {
            if (level <= 1) {
                out[0] = rows.determinant(x, firstDegree, y, secondDegree);
                return;
            }
            Floor floor = floorOf(level);
            Floor below = floorOf(level - 1);
            if (floor == null || below == null) {
                return;
            }
            int xHead = Tables.head(x);
            int yHead = Tables.head(y);
            int xDegree = Tables.degrees(x, xHead) & HIGHEST;
            int yDegree = Tables.degrees(y, yHead) & HIGHEST;
            below.curve.clear();
            for (int v = 0; v <= spans[level]; v++) {
                Tables.evaluate(x, xHead, xDegree, v, floor.leftImage);
                Tables.evaluate(y, yHead, yDegree, v, floor.rightImage);
                eliminate(level - 1, floor.leftImage, floor.rightImage, below.sharedImage);
                below.curve.take(below.sharedImage, below.sharedImage.length - 1, 1, v);
            }
            System.arraycopy(below.curve.sum, 0, out, 0, below.curve.sum.length);
        }
    }

    /** Where polynomials are laid out as tables, worked on and gathered again. */
    private static final class Bench {
        private final int letters;
        private final Images images;
        private final Divider divider;
        private final int[] one;
        private final int[] two;
        private final int[] three;
        private final int[] four;

        Bench(int letters) {
            int size = 1 << 4 * letters;
            this.letters = letters;
            divider = new Divider(size);
            images = new Images(letters, divider);
            one = new int[size];
            two = new int[size];
            three = new int[size];
            four = new int[size];
        }

        Poly product(Poly a, Poly b) {
            Arrays.fill(one, 0);
            for (int i = 0; i < a.size; i++) {
                for (int j = 0; j < b.size; j++) {
                    int key = a.keys[i] + b.keys[j];
                    one[key] = (one[key] + a.numbers[i] * b.numbers[j]) % PRIME;
                }
            }
            return gathered(one);
        }

        /** null if there is none. */
        Poly quotient(Poly a, Poly b) {
            spread(a, one);
            spread(b, two);
            return divider.split(one, two) ? gathered(divider.quotient) : null;
        }

        Poly greatestDivisor(Poly a, Poly b) {
            spread(a, one);
            spread(b, two);
            images.greatest(letters, one, two, three);
            return gathered(three);
        }

        Poly withNumber(Poly a, int shift, int v) {
            Arrays.fill(one, 0);
            for (int i = 0; i < a.size; i++) {
                int exponent = a.keys[i] >> shift & HIGHEST;
                int key = a.keys[i] - (exponent << shift);
                one[key] = (one[key] + a.numbers[i] * Numbers.raised(v, exponent)) % PRIME;
            }
            return gathered(one);
        }

        Poly sharedByCoefficients(Poly a, int shift) {
            int[] shared = one;
            int[] spare = two;
            Arrays.fill(shared, 0);
            int top = a.highest(shift);
            for (int exponent = 0; exponent <= top && Tables.head(shared) != 0; exponent++) {
                spreadCoefficient(a, shift, exponent, three);
                images.greatest(letters, shared, three, spare);
                int[] old = shared;
                shared = spare;
                spare = old;
            }
            return gathered(shared);
        }

        /**
         * A prime that stands e times in a stands e - 1 times in what a shares with its slopes: no
         * e, and no exponent, is 0 modulo 32003, so one of the prime's own slopes isn't 0.
         */
        Poly factorsStanding(Poly a, int k) {
            spread(a, one);
            int[] repeated = two;
            int[] spare = three;
            System.arraycopy(one, 0, repeated, 0, repeated.length);
            for (int letter = 0; letter < letters; letter++) {
                spreadSlope(a, 4 * letter, four);
                images.greatest(letters, repeated, four, spare);
                int[] old = repeated;
                repeated = spare;
                spare = old;
            }
            int[] distinct = four;
            divide(one, repeated, distinct);
            for (int turn = 1; turn <= k && Tables.head(distinct) > 0; turn++) {
                images.greatest(letters, distinct, repeated, spare);
                if (turn == k) {
                    divide(distinct, spare, one);
                    Tables.makeMonic(one);
                    return gathered(one);
                }
                divide(repeated, spare, repeated);
                int[] old = distinct;
                distinct = spare;
                spare = old;
            }
            return Poly.one();
        }

        Poly withoutLetter(Poly a, Poly b, int shift) {
            if (a.size == 0 || b.size == 0) {
                return new Poly(0);
            }
            spreadInFront(a, shift, one);
            spreadInFront(b, shift, two);
            images.firstDegree = a.highest(shift);
            images.secondDegree = b.highest(shift);
            int level = 2;
            for (int other = 4 * (letters - 1); other >= 0; other -= 4) {
                if (other != shift) {
                    images.spans[level] = Poly.reach(a, b, shift, other);
                    level++;
                }
            }
            images.eliminate(letters, one, two, three);
            return gatheredBeside(three, shift);
        }

        private void divide(int[] a, int[] b, int[] out) {
            divider.split(a, b);
            System.arraycopy(divider.quotient, 0, out, 0, out.length);
        }

        private static void spread(Poly a, int[] table) {
            Arrays.fill(table, 0);
            for (int i = 0; i < a.size; i++) {
                table[a.keys[i]] = a.numbers[i];
            }
        }

        private static void spreadCoefficient(Poly a, int shift, int exponent, int[] table) {
            Arrays.fill(table, 0);
            for (int i = 0; i < a.size; i++) {
                if ((a.keys[i] >> shift & HIGHEST) == exponent) {
                    table[a.keys[i] - (exponent << shift)] = a.numbers[i];
                }
            }
        }

        /** The slope as a table at once, since no polynomial of it is kept. */
        private static void spreadSlope(Poly a, int shift, int[] table) {
            Arrays.fill(table, 0);
            for (int i = 0; i < a.size; i++) {
                int exponent = a.keys[i] >> shift & HIGHEST;
                if (exponent > 0) {
                    table[a.keys[i] - (1 << shift)] = a.numbers[i] * exponent % PRIME;
                }
            }
        }

        /** With the exponent of one letter taken out of the keys and put in front of them. */
        private void spreadInFront(Poly a, int shift, int[] table) {
            Arrays.fill(table, 0);
            for (int i = 0; i < a.size; i++) {
                int exponent = a.keys[i] >> shift & HIGHEST;
                int others = a.keys[i] >> (shift + 4) << shift | a.keys[i] & ((1 << shift) - 1);
                table[exponent << 4 * (letters - 1) | others] = a.numbers[i];
            }
        }

        private static Poly gathered(int[] table) {
            Poly answer = new Poly(filledBelow(table, table.length));
            for (int key = table.length - 1; key >= 0; key--) {
                answer.append(key, table[key]);
            }
            return answer;
        }

        /** Of a table without one letter, whose exponent 0 is put between the others again. */
        private Poly gatheredBeside(int[] table, int shift) {
            int length = 1 << 4 * (letters - 1);
            Poly answer = new Poly(filledBelow(table, length));
            for (int others = length - 1; others >= 0; others--) {
                int key = others >> shift << (shift + 4) | others & ((1 << shift) - 1);
                answer.append(key, table[others]);
            }
            return answer;
        }

        private static int filledBelow(int[] table, int length) {
            int answer = 0;
            for (int key = 0; key < length; key++) {
                answer += table[key] == 0 ? 0 : 1;
            }
            return answer;
        }
    }
}
