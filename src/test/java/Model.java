import java.util.ArrayList;
import java.util.List;
import java.util.Map;
import java.util.TreeMap;

/**
 * Polynomials with exponents of any size, worked on in the plainest ways, which are others than
 * those of the class: Euclid's algorithm with pseudo remainders, and determinants by elimination
 * without fractions.
 */
final class Model {
    static final int PRIME = 32003;
    private static final int STEP = 20;
    private static final long MASK = (1L << STEP) - 1;
    final TreeMap<Long, Integer> numbers = new TreeMap<>();

    static Model number(long x) {
        Model answer = new Model();
        answer.raise(0, Math.floorMod(x, (long) PRIME));
        return answer;
    }

    static Model ofPower(int power, long number) {
        Model answer = new Model();
        long key = key(power & 15, power >> 4 & 15, power >> 8 & 15);
        answer.raise(key, Math.floorMod(number, (long) PRIME));
        return answer;
    }

    static long key(long e0, long e1, long e2) {
        return e0 << 2 * STEP | e1 << STEP | e2;
    }

    static int exponent(long key, int letter) {
        return (int) (key >> STEP * (2 - letter) & MASK);
    }

    static int power(long key) {
        return exponent(key, 0) + 16 * exponent(key, 1) + 256 * exponent(key, 2);
    }

    static int inverse(int x) {
        long answer = 1;
        for (int i = 0; i < PRIME - 2; i++) {
            answer = answer * x % PRIME;
        }
        return (int) answer;
    }

    private void raise(long key, long by) {
        int now = (int) ((numbers.getOrDefault(key, 0) + by) % PRIME);
        if (now == 0) {
            numbers.remove(key);
        } else {
            numbers.put(key, now);
        }
    }

    boolean isZero() {
        return numbers.isEmpty();
    }

    boolean isNumber() {
        return isZero() || numbers.lastKey() == 0;
    }

    Model copy() {
        Model answer = new Model();
        answer.numbers.putAll(numbers);
        return answer;
    }

    Model plus(Model other, long factor) {
        Model answer = copy();
        for (Map.Entry<Long, Integer> e : other.numbers.entrySet()) {
            answer.raise(e.getKey(), Math.floorMod(e.getValue() * factor, (long) PRIME));
        }
        return answer;
    }

    Model by(Model other) {
        Model answer = new Model();
        for (Map.Entry<Long, Integer> e : numbers.entrySet()) {
            for (Map.Entry<Long, Integer> f : other.numbers.entrySet()) {
                answer.raise(e.getKey() + f.getKey(), (long) e.getValue() * f.getValue() % PRIME);
            }
        }
        return answer;
    }

    /** null if there is none. */
    Model through(Model other) {
        if (other.isZero()) {
            return null;
        }
        Model answer = new Model();
        Model rest = copy();
        long head = other.numbers.lastKey();
        int inverse = inverse(other.numbers.get(head));
        while (!rest.isZero()) {
            long key = rest.numbers.lastKey();
            for (int letter = 0; letter < 3; letter++) {
                if (exponent(key, letter) < exponent(head, letter)) {
                    return null;
                }
            }
            Model step = new Model();
            step.raise(key - head, (long) rest.numbers.get(key) * inverse % PRIME);
            rest = rest.plus(step.by(other), -1);
            answer = answer.plus(step, 1);
        }
        return answer;
    }

    Model monic() {
        return isZero() ? this : by(number(inverse(numbers.lastEntry().getValue())));
    }

    int degreeAt(int letter) {
        int answer = -1;
        for (long key : numbers.keySet()) {
            answer = Math.max(answer, exponent(key, letter));
        }
        return answer;
    }

    Model coefficient(int letter, int exponent) {
        Model answer = new Model();
        for (Map.Entry<Long, Integer> e : numbers.entrySet()) {
            if (exponent(e.getKey(), letter) == exponent) {
                answer.raise(e.getKey() - unit(letter) * exponent, e.getValue());
            }
        }
        return answer;
    }

    static long unit(int letter) {
        return 1L << STEP * (2 - letter);
    }

    private static Model letterTo(int letter, int exponent) {
        Model answer = new Model();
        answer.raise(unit(letter) * exponent, 1);
        return answer;
    }

    Model derivative(int letter) {
        Model answer = new Model();
        for (Map.Entry<Long, Integer> e : numbers.entrySet()) {
            int exponent = exponent(e.getKey(), letter);
            if (exponent > 0) {
                answer.raise(e.getKey() - unit(letter), (long) e.getValue() * exponent % PRIME);
            }
        }
        return answer;
    }

    Model withNumber(int letter, long v) {
        Model answer = new Model();
        for (int exponent = degreeAt(letter); exponent >= 0; exponent--) {
            answer = answer.by(number(v)).plus(coefficient(letter, exponent), 1);
        }
        return answer;
    }

    Model contentAt(int letter) {
        Model answer = new Model();
        for (int exponent = 0; exponent <= degreeAt(letter); exponent++) {
            answer = shared(answer, coefficient(letter, exponent));
        }
        return answer;
    }

    static Model shared(Model a, Model b) {
        if (a.isZero() || b.isZero()) {
            return a.isZero() ? b.monic() : a.monic();
        }
        for (int letter = 0; letter < 3; letter++) {
            if (a.degreeAt(letter) > 0 || b.degreeAt(letter) > 0) {
                return sharedAt(letter, a, b);
            }
        }
        return number(1);
    }

    private static Model sharedAt(int letter, Model a, Model b) {
        Model aContent = a.contentAt(letter);
        Model bContent = b.contentAt(letter);
        Model high = a.through(aContent);
        Model low = b.through(bContent);
        while (!low.isZero()) {
            Model rest = pseudoRest(letter, high, low);
            high = low;
            low = rest.isZero() ? rest : rest.through(rest.contentAt(letter));
        }
        Model found = high.degreeAt(letter) == 0 ? number(1) : high;
        return found.by(shared(aContent, bContent)).monic();
    }

    private static Model pseudoRest(int letter, Model a, Model b) {
        int degree = b.degreeAt(letter);
        Model front = b.coefficient(letter, degree);
        Model rest = a;
        while (rest.degreeAt(letter) >= degree) {
            int top = rest.degreeAt(letter);
            Model step = rest.coefficient(letter, top).by(letterTo(letter, top - degree));
            rest = rest.by(front).plus(step.by(b), -1);
        }
        return rest;
    }

    /** The determinant as the document writes it down. */
    static Model resultant(Model a, Model b, int letter) {
        if (a.isZero() || b.isZero()) {
            return new Model();
        }
        int m = a.degreeAt(letter);
        int k = b.degreeAt(letter);
        Model[][] rows = new Model[m + k][m + k];
        for (int row = 0; row < m + k; row++) {
            Model of = row < k ? a : b;
            int top = row < k ? m : k;
            int shift = row < k ? row : row - k;
            for (int column = 0; column < m + k; column++) {
                int exponent = top - (column - shift);
                boolean inside = exponent >= 0 && exponent <= top;
                rows[row][column] = inside ? of.coefficient(letter, exponent) : new Model();
            }
        }
        return determinant(rows);
    }

    private static Model determinant(Model[][] rows) {
        int sign = 1;
        Model before = number(1);
        for (int i = 0; i < rows.length; i++) {
            int pivot = i;
            while (pivot < rows.length && rows[pivot][i].isZero()) {
                pivot++;
            }
            if (pivot == rows.length) {
                return new Model();
            }
            if (pivot != i) {
                Model[] row = rows[i];
                rows[i] = rows[pivot];
                rows[pivot] = row;
                sign = -sign;
            }
            for (int r = i + 1; r < rows.length; r++) {
                for (int c = i + 1; c < rows.length; c++) {
                    Model cross = rows[i][i].by(rows[r][c]).plus(rows[r][i].by(rows[i][c]), -1);
                    rows[r][c] = cross.through(before);
                }
            }
            before = rows[i][i];
        }
        return before.by(number(sign));
    }

    /** By the chain a, what a shares with its slopes, what that shares with its own slopes, .. */
    Model part(int k) {
        List<Model> chain = new ArrayList<>();
        chain.add(monic());
        for (int i = 0; i <= k; i++) {
            Model last = chain.get(i);
            Model next = last;
            for (int letter = 0; letter < 3; letter++) {
                next = shared(next, last.derivative(letter));
            }
            chain.add(next);
        }
        Model atLeast = chain.get(k - 1).through(chain.get(k));
        Model more = chain.get(k).through(chain.get(k + 1));
        return atLeast.through(more);
    }
}
