import java.util.ArrayList;
import java.util.List;

/** The face of the class over the plain model. */
final class ModelGcds {
    final int letters;
    final List<Model> all = new ArrayList<>();

    ModelGcds(int n) {
        letters = Math.max(1, Math.min(3, n));
    }

    Model get(int p) {
        if (p < 0 || p >= all.size()) {
            throw new IndexOutOfBoundsException();
        }
        return all.get(p);
    }

    private void room() {
        if (all.size() == 60) {
            throw new IllegalStateException();
        }
    }

    private static void demand(boolean good) {
        if (!good) {
            throw new IllegalArgumentException();
        }
    }

    private void letter(int letter) {
        demand(letter >= 0 && letter < letters);
    }

    private int keep(Model m) {
        all.add(m);
        return all.size() - 1;
    }

    int poly() {
        room();
        return keep(new Model());
    }

    boolean term(int p, long above, long below, int power) {
        Model old = get(p);
        demand(power >= 0 && power < Math.pow(16, letters));
        int divisor = (int) Math.floorMod(below, (long) Model.PRIME);
        if (divisor == 0) {
            throw new ArithmeticException();
        }
        Model wanted = Model.ofPower(power, Math.floorMod(above, (long) Model.PRIME) * Model.inverse(divisor));
        long key = Model.key(power & 15, power >> 4 & 15, power >> 8 & 15);
        Model fresh = old.copy();
        fresh.numbers.remove(key);
        fresh.numbers.putAll(wanted.numbers);
        all.set(p, fresh);
        return !fresh.numbers.equals(old.numbers);
    }

    int add(int a, int b) {
        Model first = get(a);
        Model second = get(b);
        room();
        return keep(first.plus(second, 1));
    }

    int times(int a, int b) {
        Model first = get(a);
        Model second = get(b);
        room();
        Model product = first.by(second);
        for (int i = 0; i < 3; i++) {
            demand(product.degreeAt(i) <= 15);
        }
        return keep(product);
    }

    int over(int a, int b) {
        Model first = get(a);
        Model second = get(b);
        room();
        Model quotient = first.through(second);
        return quotient == null ? -1 : keep(quotient);
    }

    int gcd(int a, int b) {
        Model first = get(a);
        Model second = get(b);
        room();
        return keep(Model.shared(first, second));
    }

    int resultant(int a, int b, int letter) {
        Model first = get(a);
        Model second = get(b);
        room();
        letter(letter);
        for (int other = 0; other < letters; other++) {
            int m = Math.max(0, first.degreeAt(letter));
            int k = Math.max(0, second.degreeAt(letter));
            int firstOther = Math.max(0, first.degreeAt(other));
            int secondOther = Math.max(0, second.degreeAt(other));
            demand(other == letter || m * secondOther + k * firstOther <= 15);
        }
        return keep(Model.resultant(first, second, letter));
    }

    int slope(int a, int letter) {
        Model first = get(a);
        room();
        letter(letter);
        return keep(first.derivative(letter));
    }

    int content(int a, int letter) {
        Model first = get(a);
        room();
        letter(letter);
        return keep(first.contentAt(letter));
    }

    int part(int a, int k) {
        Model first = get(a);
        room();
        demand(!first.isZero() && k >= 1 && k <= 45);
        return keep(first.part(k));
    }

    int image(int a, int letter, int v) {
        Model first = get(a);
        room();
        letter(letter);
        return keep(first.withNumber(letter, v));
    }

    boolean equal(int a, int b) {
        return get(a).numbers.equals(get(b).numbers);
    }

    int terms(int p) {
        return get(p).numbers.size();
    }

    int at(int p, int k, int what) {
        Model m = get(p);
        demand(k >= 0 && k < m.numbers.size() && (what == 0 || what == 1));
        List<Long> keys = new ArrayList<>(m.numbers.descendingKeySet());
        return what == 0 ? m.numbers.get(keys.get(k)) : Model.power(keys.get(k));
    }

    int degree(int p, int letter) {
        Model m = get(p);
        letter(letter);
        return m.degreeAt(letter);
    }
}
