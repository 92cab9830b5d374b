import java.util.ArrayList;
import java.util.List;
import java.util.Random;

/** Products of known primes, up to the highest exponents: what they share, their parts, quotients. */
public final class FactorsTest {
    private static final Checks CHECKS = new Checks();
    private final Random random;
    private final int letters;
    private final List<Model> primes = new ArrayList<>();

    private FactorsTest(long seed) {
        random = new Random(seed);
        letters = 1 + random.nextInt(3);
        while (primes.size() < 5) {
            Model fresh = prime().monic();
            boolean known = primes.stream().anyMatch(p -> p.numbers.equals(fresh.numbers));
            if (!known) {
                primes.add(fresh);
            }
        }
    }

    public static void main(String[] args) {
        int runs = args.length > 0 ? Integer.parseInt(args[0]) : 400;
        for (long seed = 0; seed < runs; seed++) {
            new FactorsTest(seed).run("seed " + seed);
        }
        CHECKS.end("FactorsTest");
    }

    /** A letter plus anything without that letter is prime. */
    private Model prime() {
        int letter = random.nextInt(letters);
        Model answer = Model.ofPower(1 << 4 * letter, 1);
        for (int i = random.nextInt(4); i >= 0; i--) {
            int power = 0;
            for (int other = 0; other < letters; other++) {
                power += other == letter ? 0 : random.nextInt(3) << 4 * other;
            }
            answer = answer.plus(Model.ofPower(power, random.nextInt(5) - 2), 1);
        }
        return answer;
    }

    /** How often each prime stands in a product whose exponents stay within 15. */
    private int[] counts() {
        int[] counts = new int[primes.size()];
        int[] degrees = new int[3];
        for (int tries = random.nextInt(20); tries > 0; tries--) {
            int i = random.nextInt(random.nextBoolean() ? counts.length : 2);
            boolean fits = true;
            for (int letter = 0; letter < 3; letter++) {
                fits &= degrees[letter] + primes.get(i).degreeAt(letter) <= 15;
            }
            for (int letter = 0; letter < 3 && fits; letter++) {
                degrees[letter] += primes.get(i).degreeAt(letter);
            }
            counts[i] += fits ? 1 : 0;
        }
        return counts;
    }

    private Model product(int[] counts) {
        Model answer = Model.number(1);
        for (int i = 0; i < counts.length; i++) {
            for (int k = 0; k < counts[i]; k++) {
                answer = answer.by(primes.get(i));
            }
        }
        return answer;
    }

    private static int put(ImageGcds g, Model m, long factor) {
        int p = g.poly();
        m.numbers.forEach((key, number) -> g.term(p, number * factor, 1, Model.power(key)));
        return p;
    }

    private void run(String where) {
        ImageGcds g = new ImageGcds(letters);
        int[] first = counts();
        int[] second = counts();
        int a = put(g, product(first), 1 + random.nextInt(32002));
        int b = put(g, product(second), 1 + random.nextInt(32002));
        int[] both = new int[first.length];
        boolean divides = true;
        for (int i = 0; i < both.length; i++) {
            both[i] = Math.min(first[i], second[i]);
            divides &= second[i] <= first[i];
        }
        int shared = put(g, product(both), 1);
        CHECKS.same(where + " gcd", true, g.equal(shared, g.gcd(a, b)));
        CHECKS.same(where + " gcd, the other way", true, g.equal(shared, g.gcd(b, a)));
        int quotient = g.over(a, b);
        CHECKS.same(where + " over", divides, quotient >= 0);
        CHECKS.same(where + " over and times", true, !divides || g.equal(a, g.times(quotient, b)));
        int times = 1 + random.nextInt(4);
        for (int k : new int[] {times, first[0], first[1], 15}) {
            checkPart(where, g, a, first, Math.max(1, k));
        }
        for (int letter = 0; letter < letters; letter++) {
            checkContent(where, g, a, first, letter);
        }
    }

    private void checkPart(String where, ImageGcds g, int a, int[] counts, int k) {
        int[] just = new int[counts.length];
        for (int i = 0; i < counts.length; i++) {
            just[i] = counts[i] == k ? 1 : 0;
        }
        int due = put(g, product(just), 1);
        CHECKS.same(where + " part " + k, Checks.show(g, due), Checks.show(g, g.part(a, k)));
    }

    private void checkContent(String where, ImageGcds g, int a, int[] counts, int letter) {
        int[] without = new int[counts.length];
        for (int i = 0; i < counts.length; i++) {
            without[i] = primes.get(i).degreeAt(letter) == 0 ? counts[i] : 0;
        }
        int due = put(g, product(without), 1);
        CHECKS.same(where + " content " + letter, Checks.show(g, due), Checks.show(g, g.content(a, letter)));
    }
}
