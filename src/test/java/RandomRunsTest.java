import java.util.Random;

/** Runs of calls with fixed seeds, on the class and on the plain model side by side. */
public final class RandomRunsTest {
    private static final Checks CHECKS = new Checks();
    private final Random random;
    private final ImageGcds real;
    private final ModelGcds model;
    private final int letters;

    private RandomRunsTest(long seed) {
        random = new Random(seed);
        letters = 1 + random.nextInt(3);
        real = new ImageGcds(letters);
        model = new ModelGcds(letters);
    }

    public static void main(String[] args) {
        int runs = args.length > 0 ? Integer.parseInt(args[0]) : 400;
        long from = args.length > 1 ? Long.parseLong(args[1]) : 0;
        for (long seed = from; seed < from + runs; seed++) {
            new RandomRunsTest(seed).run(seed);
        }
        CHECKS.end("RandomRunsTest");
    }

    private void run(long seed) {
        for (int call = 0; call < 200; call++) {
            step("seed " + seed + " call " + call);
        }
        CHECKS.same("seed " + seed + " count", model.all.size(), real.count());
        for (int p = 0; p < model.all.size(); p++) {
            CHECKS.same("seed " + seed + " polynomial " + p, text(p), Checks.show(real, p));
        }
    }

    /** The model's polynomial, written by the class from its terms. */
    private String text(int p) {
        ImageGcds other = new ImageGcds(letters);
        other.poly();
        model.get(p).numbers.forEach((key, number) -> other.term(0, number, 1, Model.power(key)));
        return Checks.show(other, 0);
    }

    private int pick() {
        int all = model.all.size();
        return random.nextInt(40) == 0 ? random.nextInt(64) - 2 : all == 0 ? 0 : random.nextInt(all);
    }

    private int letter() {
        return random.nextInt(20) == 0 ? random.nextInt(6) - 1 : random.nextInt(letters);
    }

    private long small() {
        return random.nextInt(12) == 0 ? random.nextLong() : random.nextInt(7) - 3;
    }

    private int power() {
        if (random.nextInt(40) == 0) {
            return random.nextInt(5000) - 100;
        }
        int power = 0;
        for (int i = 0; i < letters; i++) {
            int exponent = random.nextInt(60) == 0 ? random.nextInt(16) : random.nextInt(3);
            power += exponent << 4 * i;
        }
        return power;
    }

    /** What the plain model can do soon. */
    private boolean cheap(int p, int most) {
        if (p < 0 || p >= model.all.size()) {
            return true;
        }
        int size = 1;
        for (int i = 0; i < letters; i++) {
            size *= 1 + Math.max(0, model.get(p).degreeAt(i));
        }
        return size <= most;
    }

    private void step(String where) {
        int a = pick();
        int b = pick();
        int letter = letter();
        switch (random.nextInt(20)) {
            case 0 -> both(where + " poly", real::poly, model::poly);
            case 1, 2, 3, 4, 5, 6 -> terms(where, a);
            case 7 -> both(where + " add", () -> real.add(a, b), () -> model.add(a, b));
            case 8, 9, 10, 11 -> both(where + " times", () -> real.times(a, b), () -> model.times(a, b));
            case 12 -> both(where + " over", () -> real.over(a, b), () -> model.over(a, b));
            case 13, 14 -> costly(where, a, b, letter);
            case 15 -> both(where + " slope", () -> real.slope(a, letter), () -> model.slope(a, letter));
            case 16 -> content(where, a, letter);
            case 17 -> part(where, a);
            case 18 -> image(where, a, letter);
            default -> looks(where, a, b, letter);
        }
    }

    private void both(String what, Checks.Call call, Checks.Call due) {
        CHECKS.same(what, Checks.outcome(due), Checks.outcome(call));
    }

    private void terms(String where, int p) {
        long above = small();
        long below = random.nextInt(5) == 0 ? small() : 1;
        int power = power();
        both(where + " term", () -> real.term(p, above, below, power), () -> model.term(p, above, below, power));
    }

    private void costly(String where, int a, int b, int letter) {
        if (!cheap(a, 60) || !cheap(b, 60)) {
            return;
        }
        if (random.nextBoolean()) {
            both(where + " gcd", () -> real.gcd(a, b), () -> model.gcd(a, b));
        } else {
            both(where + " resultant", () -> real.resultant(a, b, letter), () -> model.resultant(a, b, letter));
        }
    }

    private void content(String where, int a, int letter) {
        if (cheap(a, 120)) {
            both(where + " content", () -> real.content(a, letter), () -> model.content(a, letter));
        }
    }

    private void part(String where, int a) {
        int k = random.nextInt(8) == 0 ? random.nextInt(50) - 2 : 1 + random.nextInt(3);
        if (cheap(a, 60)) {
            both(where + " part", () -> real.part(a, k), () -> model.part(a, k));
        }
    }

    private void image(String where, int a, int letter) {
        int v = (int) small();
        both(where + " image", () -> real.image(a, letter, v), () -> model.image(a, letter, v));
    }

    private void looks(String where, int a, int b, int letter) {
        int k = random.nextInt(6) - 1;
        int what = random.nextInt(20) == 0 ? random.nextInt(5) - 2 : random.nextInt(2);
        both(where + " equal", () -> real.equal(a, b), () -> model.equal(a, b));
        both(where + " terms", () -> real.terms(a), () -> model.terms(a));
        both(where + " at", () -> real.at(a, k, what), () -> model.at(a, k, what));
        both(where + " degree", () -> real.degree(a, letter), () -> model.degree(a, letter));
    }
}
