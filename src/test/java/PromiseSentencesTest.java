/** For each sentence of the promises that names a boundary case, a test of its own. */
public final class PromiseSentencesTest {
    private static final Class<IllegalStateException> FULL = IllegalStateException.class;
    private static final Class<IllegalArgumentException> BAD = IllegalArgumentException.class;
    private static final Class<ArithmeticException> ZERO = ArithmeticException.class;
    private static final int PRIME = 32003;
    private static final String ALL_HIGH = "x^15*y^15*z^15";
    private static final Checks CHECKS = new Checks();

    public static void main(String[] args) {
        tooFewLetters();
        tooManyLetters();
        polyIsZero();
        polyAtTheEnd();
        whetherItIsAnother();
        aboveThroughBelow();
        noSuchPower();
        belowIsZero();
        sumsOfAll();
        sumsWithZero();
        productsUpToFifteen();
        productsAboveFifteen();
        productsWithZero();
        quotientsThatAre();
        noQuotient();
        quotientsThroughZero();
        CHECKS.end("PromiseSentencesTest");
    }

    private static int make(ImageGcds g, String text) {
        return Checks.make(g, text);
    }

    private static void shows(String what, ImageGcds g, int p, String want) {
        CHECKS.same(what, want, Checks.show(g, p));
    }

    private static void hasLetters(int n, int due) {
        ImageGcds g = new ImageGcds(n);
        int p = g.poly();
        CHECKS.same("the last power of " + n, true, g.term(p, 1, 1, (1 << 4 * due) - 1));
        CHECKS.refused("one power more of " + n, BAD, () -> g.term(p, 1, 1, 1 << 4 * due));
        CHECKS.same("the last letter of " + n, 15, g.degree(p, due - 1));
        CHECKS.refused("one letter more of " + n, BAD, () -> g.degree(p, due));
        shows("a gcd of " + n, g, g.gcd(p, p), ALL_HIGH.substring(0, 5 * due - 1));
    }

    private static void tooFewLetters() {
        CHECKS.sentence("n letters: 1 if that is below 1");
        for (int n : new int[] {Integer.MIN_VALUE, -3, -1, 0, 1}) {
            hasLetters(n, 1);
        }
        hasLetters(2, 2);
    }

    private static void tooManyLetters() {
        CHECKS.sentence("3 if it is above 3");
        for (int n : new int[] {3, 4, 5, 16, Integer.MAX_VALUE}) {
            hasLetters(n, 3);
        }
        hasLetters(2, 2);
    }

    private static void polyIsZero() {
        CHECKS.sentence("The polynomial 0.");
        ImageGcds g = new ImageGcds(3);
        int a = make(g, "x+1");
        int p = g.poly();
        CHECKS.same("terms", 0, g.terms(p));
        CHECKS.same("degree", -1, g.degree(p, 0));
        CHECKS.refused("its head", BAD, () -> g.at(p, 0, 0));
        CHECKS.same("added it changes nothing", true, g.equal(a, g.add(a, p)));
        g.term(p, 1, 1, 5);
        CHECKS.same("the next one is 0 too", 0, g.terms(g.poly()));
        CHECKS.same("the first one stays", 2, g.terms(a));
    }

    private static void polyAtTheEnd() {
        CHECKS.sentence("int poly() throws IllegalStateException");
        ImageGcds g = new ImageGcds(1);
        for (int i = 0; i < 60; i++) {
            CHECKS.same("poly", i, g.poly());
        }
        CHECKS.refused("one more", FULL, g::poly);
        CHECKS.same("count", 60, g.count());
        CHECKS.same("the last one", 0, g.terms(59));
    }

    private static void whetherItIsAnother() {
        CHECKS.sentence("The number at a power is above through below from now on: whether it is another one.");
        ImageGcds g = new ImageGcds(2);
        int p = g.poly();
        CHECKS.same("0 where none is", false, g.term(p, 0, 1, 17));
        CHECKS.same("32003 where none is", false, g.term(p, PRIME, 7, 17));
        CHECKS.same("1 where none is", true, g.term(p, 1, 1, 17));
        CHECKS.same("1 again", false, g.term(p, 1, 1, 17));
        CHECKS.same("1 as 32004 through -32002", false, g.term(p, PRIME + 1, 1 - PRIME, 17));
        CHECKS.same("1 as -5 through -5", false, g.term(p, -5, -5, 17));
        CHECKS.same("-1", true, g.term(p, 5, -5, 17));
        CHECKS.same("32002 again", false, g.term(p, PRIME - 1, 1, 17));
        CHECKS.same("1 at another power", true, g.term(p, 1, 1, 16));
        CHECKS.same("0 takes it out", true, g.term(p, 0, -1, 17));
        CHECKS.same("0 again", false, g.term(p, 0, 1, 17));
        CHECKS.same("terms", 1, g.terms(p));
        CHECKS.same("the other power stays", 16, g.at(p, 0, 1));
        CHECKS.same("the last one goes", true, g.term(p, -PRIME, 3, 16));
        CHECKS.same("terms", 0, g.terms(p));
    }

    private static void aboveThroughBelow() {
        CHECKS.sentence("The number at a power is above through below from now on");
        ImageGcds g = new ImageGcds(1);
        int p = g.poly();
        long[] numbers = {1, -1, 2, PRIME - 1, PRIME + 2, -PRIME - 2, Long.MAX_VALUE, Long.MIN_VALUE, Integer.MIN_VALUE};
        for (long above : numbers) {
            for (long below : numbers) {
                g.term(p, above, below, 1);
                long due = Math.floorMod(above, (long) PRIME);
                long back = g.at(p, 0, 0) * Math.floorMod(below, (long) PRIME) % PRIME;
                CHECKS.same(above + " through " + below, due, back);
            }
        }
        for (int below = 1; below < PRIME; below++) {
            g.term(p, 1, below, 1);
            CHECKS.same("1 through " + below, 1L, (long) g.at(p, 0, 0) * below % PRIME);
        }
    }

    private static void noSuchPower() {
        CHECKS.sentence("IllegalArgumentException: no such power.");
        for (int n = 1; n <= 3; n++) {
            ImageGcds g = new ImageGcds(n);
            int p = g.poly();
            int all = 1 << 4 * n;
            for (int power : new int[] {Integer.MIN_VALUE, -all, -16, -1, all, 4096, 65536, Integer.MAX_VALUE}) {
                CHECKS.refused("power " + power, BAD, () -> g.term(p, 1, 1, power));
                CHECKS.refused("power " + power + " with 0", BAD, () -> g.term(p, 0, 1, power));
            }
            CHECKS.same("power 0", true, g.term(p, 1, 1, 0));
            CHECKS.same("power " + (all - 1), true, g.term(p, 1, 1, all - 1));
            CHECKS.same("terms", 2, g.terms(p));
        }
    }

    private static void belowIsZero() {
        CHECKS.sentence("ArithmeticException: below is 0 modulo 32003.");
        ImageGcds g = new ImageGcds(1);
        int p = make(g, "7*x");
        long highest = Long.MAX_VALUE / PRIME * PRIME;
        for (long below : new long[] {0, PRIME, -PRIME, 2 * PRIME, 4294967296L * PRIME, highest, -highest}) {
            CHECKS.refused("below " + below, ZERO, () -> g.term(p, 1, below, 1));
            CHECKS.refused("0 through " + below, ZERO, () -> g.term(p, 0, below, 1));
            CHECKS.refused("as it was, through " + below, ZERO, () -> g.term(p, 7, below, 1));
            CHECKS.same("the number stays", 7, g.at(p, 0, 0));
        }
        for (long below : new long[] {1, -1, PRIME - 1, PRIME + 1, highest + 1, -highest - 1}) {
            CHECKS.same("through " + below, true, g.term(p, 2 * Math.floorMod(below, (long) PRIME), below, 1));
            CHECKS.same("the number", 2, g.at(p, 0, 0));
            g.term(p, 7, 1, 1);
        }
    }

    private static void sumsOfAll() {
        CHECKS.sentence("The sum.");
        ImageGcds g = new ImageGcds(3);
        int a = g.poly();
        int b = g.poly();
        for (int power = 0; power < 4096; power++) {
            g.term(a, power + 1, 1, power);
            g.term(b, power % 2 == 0 ? -power - 1 : 1, 1, power);
        }
        int sum = g.add(a, b);
        CHECKS.same("all terms twice", 4096, g.terms(g.add(a, a)));
        CHECKS.same("those that stay", 2048, g.terms(sum));
        CHECKS.same("the head", 4095, g.at(sum, 0, 1));
        CHECKS.same("its number", 4097, g.at(sum, 0, 0));
        CHECKS.same("the first one stays", 4096, g.terms(a));
        CHECKS.same("the second one stays", 4096, g.terms(b));
    }

    private static void sumsWithZero() {
        CHECKS.sentence("The sum.");
        ImageGcds g = new ImageGcds(3);
        int zero = g.poly();
        int a = make(g, ALL_HIGH + "+1");
        shows("0 and 0", g, g.add(zero, zero), "0");
        shows("with 0", g, g.add(a, zero), ALL_HIGH + "+1");
        int copy = g.add(zero, a);
        g.term(copy, 0, 1, 0);
        shows("the answer is another one than a", g, a, ALL_HIGH + "+1");
        shows("with its opposite", g, g.add(a, make(g, "-" + ALL_HIGH + "-1")), "0");
    }

    private static void productsUpToFifteen() {
        CHECKS.sentence("The product.");
        for (int letter = 0; letter < 3; letter++) {
            ImageGcds g = new ImageGcds(3);
            String name = "xyz".substring(letter, letter + 1);
            for (int exponent = 0; exponent <= 15; exponent++) {
                int a = g.poly();
                int b = g.poly();
                g.term(a, 2, 1, exponent << 4 * letter);
                g.term(b, 3, 1, 15 - exponent << 4 * letter);
                shows("just 15 at " + name, g, g.times(a, b), "6*" + name + "^15");
            }
        }
        ImageGcds g = new ImageGcds(3);
        shows("15 at all", g, g.times(make(g, "x^15*y^7"), make(g, "y^8*z^15")), ALL_HIGH);
        shows("by a number", g, g.times(make(g, ALL_HIGH), make(g, "-1")), "-" + ALL_HIGH);
    }

    private static void productsAboveFifteen() {
        CHECKS.sentence("IllegalArgumentException: an exponent in it is above 15.");
        for (int letter = 0; letter < 3; letter++) {
            for (int exponent = 1; exponent <= 15; exponent++) {
                ImageGcds g = new ImageGcds(3);
                int a = make(g, "1");
                int b = make(g, "1");
                g.term(a, 1, 1, exponent << 4 * letter);
                g.term(b, 1, 1, 16 - exponent << 4 * letter);
                CHECKS.refused("16 at " + letter, BAD, () -> g.times(a, b));
                CHECKS.refused("16 at " + letter, BAD, () -> g.times(b, a));
            }
            ImageGcds g = new ImageGcds(letter + 1);
            int high = g.poly();
            g.term(high, 1, 1, 15 << 4 * letter);
            CHECKS.refused("30 at " + letter, BAD, () -> g.times(high, high));
        }
        ImageGcds g = new ImageGcds(2);
        int a = make(g, "x^8*y+y^9");
        int b = make(g, "x^8*y-x+1");
        CHECKS.refused("16 at the head alone", BAD, () -> g.times(a, b));
        int c = make(g, "x^15+y^9");
        int d = make(g, "y^7");
        CHECKS.refused("16 behind the head alone", BAD, () -> g.times(c, d));
    }

    private static void productsWithZero() {
        CHECKS.sentence("IllegalArgumentException: an exponent in it is above 15.");
        ImageGcds g = new ImageGcds(3);
        int zero = g.poly();
        int high = make(g, ALL_HIGH);
        shows("0 has no exponents", g, g.times(high, zero), "0");
        shows("0 has no exponents", g, g.times(zero, high), "0");
        shows("0 and 0", g, g.times(zero, zero), "0");
    }

    private static void quotientsThatAre() {
        CHECKS.sentence("a through b: what times b is a");
        ImageGcds g = new ImageGcds(3);
        int high = make(g, ALL_HIGH);
        int zero = g.poly();
        shows("through itself", g, g.over(high, high), "1");
        shows("through 1", g, g.over(high, make(g, "1")), ALL_HIGH);
        shows("through 32002", g, g.over(high, make(g, "32002")), "-" + ALL_HIGH);
        shows("a number through a number", g, g.over(make(g, "6"), make(g, "-3")), "-2");
        shows("0 through a number", g, g.over(zero, make(g, "3")), "0");
        shows("0 through another one", g, g.over(zero, high), "0");
        shows("through the last letter", g, g.over(high, make(g, "2*z^15")), "-16001*x^15*y^15");
        int sum = make(g, "x^14+y^14+z^14");
        int product = g.times(sum, make(g, "x-y+z"));
        shows("through a long one", g, g.over(product, sum), "x-y+z");
        shows("through a short one", g, g.over(product, make(g, "x-y+z")), "x^14+y^14+z^14");
    }

    private static void noQuotient() {
        CHECKS.sentence("-1 (none is made) if there is no such polynomial");
        ImageGcds g = new ImageGcds(3);
        String[][] pairs = {{"1", "x"}, {"1", "z"}, {"x", "x^2"}, {"x", "y"}, {"y", "x"}, {"z^14", "z^15"}, {"x+1", "x"},
            {"x^2+1", "x+1"}, {"y^2+1", "y+1"}, {"z^2+1", "z+1"}, {"x*y+1", "x+1"}, {"x", "y^15"}, {"x*y", "x+z"},
            {"x^15*y^15", "x*z"}, {"x^2-y^2+1", "x-y"}};
        for (String[] pair : pairs) {
            int a = make(g, pair[0]);
            int b = make(g, pair[1]);
            int before = g.count();
            CHECKS.same(pair[0] + " through " + pair[1], -1, g.over(a, b));
            CHECKS.same("count", before, g.count());
        }
        int next = g.count();
        CHECKS.same("the next one", next, g.poly());
        CHECKS.same("is 0", 0, g.terms(next));
    }

    private static void quotientsThroughZero() {
        CHECKS.sentence("-1 (none is made) if .. b is 0");
        for (int n = 1; n <= 3; n++) {
            ImageGcds g = new ImageGcds(n);
            int zero = g.poly();
            int a = make(g, "x+1");
            int number = make(g, "1");
            CHECKS.same("through 0", -1, g.over(a, zero));
            CHECKS.same("a number through 0", -1, g.over(number, zero));
            CHECKS.same("0 through 0", -1, g.over(zero, zero));
            CHECKS.same("0 through another 0", -1, g.over(zero, g.poly()));
            CHECKS.same("count", 4, g.count());
        }
    }
}
