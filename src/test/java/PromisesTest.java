/** For each promise: ordinary inputs, the edges that the document names, wrong inputs. */
public final class PromisesTest {
    private static final Class<IndexOutOfBoundsException> NO_POLY = IndexOutOfBoundsException.class;
    private static final Class<IllegalStateException> FULL = IllegalStateException.class;
    private static final Class<IllegalArgumentException> BAD = IllegalArgumentException.class;
    private static final Class<ArithmeticException> ZERO = ArithmeticException.class;
    private static final Checks CHECKS = new Checks();

    public static void main(String[] args) {
        newObject();
        poly();
        term();
        sums();
        products();
        quotients();
        divisors();
        resultants();
        resultantLimits();
        slopes();
        contents();
        parts();
        partsOfMany();
        images();
        equality();
        termCounts();
        termsInOrder();
        degrees();
        full();
        firstException();
        nothingChanges();
        CHECKS.end("PromisesTest");
    }

    private static int make(ImageGcds g, String text) {
        return Checks.make(g, text);
    }

    private static void shows(String what, ImageGcds g, int p, String want) {
        CHECKS.same(what, want, Checks.show(g, p));
    }

    private static void newObject() {
        int[][] cases = {{Integer.MIN_VALUE, 1}, {-1, 1}, {0, 1}, {1, 1}, {2, 2}, {3, 3}, {4, 3}, {Integer.MAX_VALUE, 3}};
        for (int[] one : cases) {
            ImageGcds g = new ImageGcds(one[0]);
            CHECKS.same("count of a new one", 0, g.count());
            int p = g.poly();
            int size = 1 << 4 * one[1];
            CHECKS.same("last power", true, g.term(p, 1, 1, size - 1));
            CHECKS.refused("power behind the last one", BAD, () -> g.term(p, 1, 1, size));
            CHECKS.same("last letter", 15, g.degree(p, one[1] - 1));
            CHECKS.refused("letter behind the last one", BAD, () -> g.degree(p, one[1]));
        }
    }

    private static void poly() {
        ImageGcds g = new ImageGcds(2);
        for (int i = 0; i < 60; i++) {
            CHECKS.same("poly", i, g.poly());
            CHECKS.same("terms of it", 0, g.terms(i));
        }
        CHECKS.refused("the 61st poly", FULL, g::poly);
        CHECKS.same("count", 60, g.count());
    }

    private static void term() {
        ImageGcds g = new ImageGcds(3);
        int p = g.poly();
        CHECKS.same("0 over 0", false, g.term(p, 0, 1, 5));
        CHECKS.same("set", true, g.term(p, 1, 2, 5));
        CHECKS.same("a half", 16002, g.at(p, 0, 0));
        CHECKS.same("set again", false, g.term(p, 32004, -32001, 5));
        CHECKS.same("another one", true, g.term(p, 3, 1, 5));
        CHECKS.same("out again", true, g.term(p, 32003L * 7, 1, 5));
        CHECKS.same("terms", 0, g.terms(p));
        CHECKS.same("out twice", false, g.term(p, 0, 9, 5));
        CHECKS.same("least long", true, g.term(p, Long.MIN_VALUE, Long.MAX_VALUE, 4095));
        long least = Math.floorMod(Long.MIN_VALUE, 32003L);
        long most = Math.floorMod(Long.MAX_VALUE, 32003L);
        CHECKS.same("least over most", least, g.at(p, 0, 0) * most % 32003);
        CHECKS.same("power", 4095, g.at(p, 0, 1));
        CHECKS.refused("power -1", BAD, () -> g.term(p, 1, 1, -1));
        CHECKS.refused("power 4096", BAD, () -> g.term(p, 1, 1, 4096));
        CHECKS.refused("below 0", ZERO, () -> g.term(p, 1, 0, 0));
        CHECKS.refused("below 0 modulo", ZERO, () -> g.term(p, 1, -32003L * 1000000007L, 0));
        CHECKS.refused("0 over 0", ZERO, () -> g.term(p, 0, 0, 0));
        CHECKS.refused("no such one", NO_POLY, () -> g.term(1, 1, 1, 0));
        CHECKS.refused("one -1", NO_POLY, () -> g.term(-1, 1, 1, 0));
    }

    private static void sums() {
        ImageGcds g = new ImageGcds(3);
        int a = make(g, "x^2+3*y*z-5");
        int b = make(g, "-x^2+y+5*z^15-3*y*z");
        shows("add", g, g.add(a, b), "y+5*z^15-5");
        shows("add itself", g, g.add(a, a), "2*x^2+6*y*z-10");
        int zero = make(g, "");
        shows("add 0", g, g.add(a, zero), "x^2+3*y*z-5");
        shows("0 add", g, g.add(zero, a), "x^2+3*y*z-5");
        shows("add of inverses", g, g.add(make(g, "7*x-1"), make(g, "-7*x+1")), "0");
        shows("add modulo", g, g.add(make(g, "32002"), make(g, "32002")), "-2");
        CHECKS.refused("no first", NO_POLY, () -> g.add(99, a));
        CHECKS.refused("no second", NO_POLY, () -> g.add(a, -1));
    }

    private static void products() {
        ImageGcds g = new ImageGcds(3);
        int a = make(g, "x+y+z");
        int b = make(g, "x-y-z");
        shows("times", g, g.times(a, b), "x^2-y^2-2*y*z-z^2");
        int zero = make(g, "");
        int high = make(g, "x^15*y^15*z^15");
        shows("times 0", g, g.times(high, zero), "0");
        shows("0 times", g, g.times(zero, high), "0");
        shows("times a number", g, g.times(high, make(g, "-2")), "-2*x^15*y^15*z^15");
        shows("up to 15", g, g.times(make(g, "x^8*y^7*z^15"), make(g, "x^7*y^8")), "x^15*y^15*z^15");
        int low = make(g, "x^7*y^7*z^7+1");
        for (String text : new String[] {"x^9+1", "y^9+x", "z^9"}) {
            int other = make(g, text);
            CHECKS.refused("too high", BAD, () -> g.times(low, other));
            CHECKS.refused("too high", BAD, () -> g.times(other, low));
        }
        CHECKS.refused("no first", NO_POLY, () -> g.times(-1, low));
        CHECKS.refused("no second", NO_POLY, () -> g.times(low, g.count()));
    }

    private static void quotients() {
        ImageGcds g = new ImageGcds(3);
        int a = make(g, "2*x^2+x*y-z");
        int b = make(g, "3*y^2*z+x-7");
        int product = g.times(a, b);
        shows("over", g, g.over(product, a), "x+3*y^2*z-7");
        shows("over", g, g.over(product, b), "2*x^2+x*y-z");
        shows("over itself", g, g.over(a, a), "1");
        int zero = make(g, "");
        shows("0 over", g, g.over(zero, a), "0");
        shows("over a number", g, g.over(a, make(g, "2")), "x^2-16001*x*y+16001*z");
        int before = g.count();
        CHECKS.same("over 0", -1, g.over(a, zero));
        CHECKS.same("0 over 0", -1, g.over(zero, zero));
        CHECKS.same("no quotient", -1, g.over(a, b));
        CHECKS.same("no quotient", -1, g.over(a, product));
        CHECKS.same("none is made", before, g.count());
        CHECKS.same("head fits, rest doesn't", -1, g.over(make(g, "x^2+1"), make(g, "x+1")));
        CHECKS.same("exponents carry", -1, g.over(make(g, "x^3*y^2"), make(g, "x*y^15*z^3+y^3")));
        CHECKS.same("as if y^16 were x", -1, g.over(make(g, "x*y+x"), make(g, "x+y^15")));
        CHECKS.same("as if y^16 were x", -1, g.over(make(g, "x*y+2*x+y^15"), make(g, "x+y^15")));
        CHECKS.same("as if z^16 were y", -1, g.over(make(g, "y*z+2*y+z^15"), make(g, "y+z^15")));
        CHECKS.same("a letter too much", -1, g.over(make(g, "x^3+y"), make(g, "x+z^15")));
        CHECKS.refused("no first", NO_POLY, () -> g.over(-1, a));
        CHECKS.refused("no second", NO_POLY, () -> g.over(a, 60));
    }

    private static void divisors() {
        ImageGcds g = new ImageGcds(3);
        int shared = make(g, "2*x*y-3*z^2+1");
        int a = g.times(shared, make(g, "x^2+y"));
        int b = g.times(shared, make(g, "z-5*x"));
        shows("gcd", g, g.gcd(a, b), "x*y+16000*z^2-16001");
        shows("gcd of factors", g, g.gcd(a, shared), "x*y+16000*z^2-16001");
        int zero = make(g, "");
        shows("gcd with 0", g, g.gcd(zero, make(g, "3*y-6")), "y-2");
        shows("gcd with 0", g, g.gcd(make(g, "3*z"), zero), "z");
        shows("gcd of 0 and 0", g, g.gcd(zero, zero), "0");
        shows("gcd of numbers", g, g.gcd(make(g, "6"), make(g, "4")), "1");
        shows("gcd with a number", g, g.gcd(a, make(g, "4")), "1");
        shows("gcd with itself", g, g.gcd(make(g, "-x^2*z+z"), make(g, "-x^2*z+z")), "x^2*z-z");
        shows("powers", g, g.gcd(make(g, "x^15*y^3*z"), make(g, "x^2*y^15")), "x^2*y^3");
        shows("last letter alone", g, g.gcd(make(g, "x*z^2-x"), make(g, "y*z-y")), "z-1");
        shows("middle letter alone", g, g.gcd(make(g, "x*y^2-x"), make(g, "y*z-z")), "y-1");
        CHECKS.refused("no first", NO_POLY, () -> g.gcd(-1, a));
        CHECKS.refused("no second", NO_POLY, () -> g.gcd(a, g.count()));
    }

    private static void resultants() {
        ImageGcds g = new ImageGcds(3);
        int a = make(g, "x-y");
        int b = make(g, "x-z");
        shows("two lines", g, g.resultant(a, b, 0), "y-z");
        shows("the other way", g, g.resultant(b, a, 0), "-y+z");
        shows("without rows", g, g.resultant(make(g, "7*y^15"), make(g, "9*z^15"), 0), "1");
        int zero = make(g, "");
        shows("of 0", g, g.resultant(zero, a, 0), "0");
        shows("of 0", g, g.resultant(a, zero, 0), "0");
        shows("of 0 and a number", g, g.resultant(zero, make(g, "5"), 1), "0");
        shows("of 0 and 0", g, g.resultant(zero, zero, 2), "0");
        shows("no letter in the first", g, g.resultant(make(g, "y^2+z"), make(g, "x^3+x"), 0), "y^6+3*y^4*z+3*y^2*z^2+z^3");
        shows("no letter in the second", g, g.resultant(make(g, "x^3+x"), make(g, "2*z"), 0), "8*z^3");
        int quadratic = make(g, "y*x^2+z*x+1");
        shows("front that becomes 0", g, g.resultant(quadratic, g.slope(quadratic, 0), 0), "4*y^2-y*z^2");
        shows("letter 1", g, g.resultant(make(g, "y^2-x"), make(g, "y-z"), 1), "-x+z^2");
        shows("letter 2", g, g.resultant(make(g, "z^3-x"), make(g, "y*z-1"), 2), "x*y^3-1");
        shows("letter 2, the other way", g, g.resultant(make(g, "y*z-1"), make(g, "z^3-x"), 2), "-x*y^3+1");
        shows("shared factor", g, g.resultant(make(g, "x^2-z^2"), make(g, "x*y-y*z"), 0), "0");
        CHECKS.refused("letter -1", BAD, () -> g.resultant(a, b, -1));
        CHECKS.refused("letter 3", BAD, () -> g.resultant(a, b, 3));
        CHECKS.refused("no first", NO_POLY, () -> g.resultant(-1, a, 0));
        CHECKS.refused("no second", NO_POLY, () -> g.resultant(a, 77, 0));
    }

    private static void resultantLimits() {
        ImageGcds g = new ImageGcds(3);
        int low = make(g, "x^3-y");
        shows("just 15", g, g.resultant(low, make(g, "x^12*y-x*y"), 0), "y^15-y^4");
        int high = make(g, "x^13*y-x*y");
        CHECKS.refused("16", BAD, () -> g.resultant(low, high, 0));
        int zero = make(g, "");
        shows("degrees of 0", g, g.resultant(zero, make(g, "x^15*y^15*z^15"), 0), "0");
        int third = make(g, "z^4*x^4+1");
        int fourth = make(g, "x^4+y");
        CHECKS.refused("16 at the last letter", BAD, () -> g.resultant(third, fourth, 0));
        CHECKS.refused("16, the other way", BAD, () -> g.resultant(fourth, third, 0));
        ImageGcds one = new ImageGcds(1);
        int a = make(one, "x^15-2");
        int b = make(one, "x^15-3");
        shows("thirty rows", one, one.resultant(a, b, 0), "-1");
        shows("thirty rows, the other way", one, one.resultant(b, a, 0), "1");
        CHECKS.refused("letter 1 of one", BAD, () -> one.resultant(a, b, 1));
    }

    private static void slopes() {
        ImageGcds g = new ImageGcds(3);
        int a = make(g, "x^15*y^2*z-4*y^3+z^15+x-9");
        shows("slope at 0", g, g.slope(a, 0), "15*x^14*y^2*z+1");
        shows("slope at 1", g, g.slope(a, 1), "2*x^15*y*z-12*y^2");
        shows("slope at 2", g, g.slope(a, 2), "x^15*y^2+15*z^14");
        shows("slope of a number", g, g.slope(make(g, "5"), 1), "0");
        shows("slope of 0", g, g.slope(make(g, ""), 1), "0");
        CHECKS.refused("letter 3", BAD, () -> g.slope(a, 3));
        CHECKS.refused("letter -1", BAD, () -> g.slope(a, -1));
        CHECKS.refused("no such one", NO_POLY, () -> g.slope(99, 0));
    }

    private static void contents() {
        ImageGcds g = new ImageGcds(3);
        int a = g.times(make(g, "2*y*z+4"), make(g, "x^3*y+x-7*z"));
        shows("content at 0", g, g.content(a, 0), "y*z+2");
        shows("content at 1", g, g.content(a, 1), "1");
        int b = g.times(make(g, "x^2-5"), make(g, "3*y^15*z+x*y"));
        shows("content at 1", g, g.content(b, 1), "x^2-5");
        shows("content at 2", g, g.content(b, 2), "x^2*y-5*y");
        shows("one coefficient", g, g.content(make(g, "3*x^4*y-6*x^4*z"), 0), "y-2*z");
        shows("a number", g, g.content(make(g, "12"), 2), "1");
        shows("without the letter", g, g.content(make(g, "2*x-8"), 2), "x-4");
        shows("0", g, g.content(make(g, ""), 0), "0");
        ImageGcds one = new ImageGcds(1);
        shows("one letter", one, one.content(make(one, "4*x^2+8"), 0), "1");
        CHECKS.refused("letter 3", BAD, () -> g.content(a, 3));
        CHECKS.refused("letter -1", BAD, () -> g.content(a, -1));
        CHECKS.refused("letter 1 of one", BAD, () -> one.content(0, 1));
        CHECKS.refused("no such one", NO_POLY, () -> g.content(99, 0));
    }

    private static void parts() {
        ImageGcds g = new ImageGcds(3);
        int a = make(g, "3*x^3*y*z^15");
        shows("once", g, g.part(a, 1), "y");
        shows("twice", g, g.part(a, 2), "1");
        shows("three times", g, g.part(a, 3), "x");
        shows("15 times", g, g.part(a, 15), "z");
        shows("45 times", g, g.part(a, 45), "1");
        int number = make(g, "9");
        shows("of a number", g, g.part(number, 1), "1");
        shows("of a number", g, g.part(number, 45), "1");
        int zero = make(g, "");
        CHECKS.refused("of 0", BAD, () -> g.part(zero, 1));
        CHECKS.refused("0 times", BAD, () -> g.part(a, 0));
        CHECKS.refused("-1 times", BAD, () -> g.part(a, -1));
        CHECKS.refused("46 times", BAD, () -> g.part(a, 46));
        CHECKS.refused("no such one", NO_POLY, () -> g.part(-1, 1));
        shows("all letters 15 times", g, g.part(make(g, "x^15*y^15*z^15"), 15), "x*y*z");
    }

    private static void partsOfMany() {
        ImageGcds g = new ImageGcds(3);
        int once = make(g, "5*x^2+y*z+1");
        int twice = make(g, "2*y-z^2");
        int also = make(g, "x+y+z");
        int thrice = make(g, "z+4");
        int a = g.times(once, g.times(twice, twice));
        a = g.times(a, g.times(also, also));
        a = g.times(a, g.times(thrice, g.times(thrice, thrice)));
        shows("once", g, g.part(a, 1), "x^2-12801*y*z-12801");
        int both = g.times(also, make(g, "y+16001*z^2"));
        CHECKS.same("two that stand twice", true, g.equal(g.part(a, 2), both));
        shows("three times", g, g.part(a, 3), "z+4");
        shows("four times", g, g.part(a, 4), "1");
        shows("the numbers of primes in one letter", g, g.part(make(g, "x^4-1"), 1), "x^4-1");
    }

    private static void images() {
        ImageGcds g = new ImageGcds(3);
        int a = make(g, "x^2*y-3*x*z+z^2+4");
        shows("letter 0", g, g.image(a, 0, 2), "4*y+z^2-6*z+4");
        shows("letter 1", g, g.image(a, 1, -1), "-x^2-3*x*z+z^2+4");
        shows("letter 2", g, g.image(a, 2, 0), "x^2*y+4");
        shows("modulo", g, g.image(a, 2, 32003 * 3 + 1), "x^2*y-3*x+5");
        shows("terms that go", g, g.image(make(g, "x*y-x"), 1, 1), "0");
        shows("0", g, g.image(make(g, ""), 1, 1), "0");
        int least = g.image(make(g, "y"), 1, Integer.MIN_VALUE);
        CHECKS.same("least number", Math.floorMod(Integer.MIN_VALUE, 32003), g.at(least, 0, 0));
        CHECKS.refused("letter 3", BAD, () -> g.image(a, 3, 0));
        CHECKS.refused("letter -1", BAD, () -> g.image(a, -1, 0));
        CHECKS.refused("no such one", NO_POLY, () -> g.image(99, 0, 0));
    }

    private static void equality() {
        ImageGcds g = new ImageGcds(2);
        int a = make(g, "x+y");
        int b = make(g, "y+x");
        int c = make(g, "x+2*y");
        int d = make(g, "x+y^2");
        CHECKS.same("same", true, g.equal(a, b));
        CHECKS.same("itself", true, g.equal(a, a));
        CHECKS.same("another number", false, g.equal(a, c));
        CHECKS.same("another power", false, g.equal(a, d));
        CHECKS.same("more terms", false, g.equal(a, make(g, "x+y+1")));
        CHECKS.same("0 and 0", true, g.equal(g.poly(), g.poly()));
        g.term(b, 0, 1, 1);
        CHECKS.same("after a change", false, g.equal(a, b));
        CHECKS.same("the other one stays", 2, g.terms(a));
        CHECKS.refused("no first", NO_POLY, () -> g.equal(-1, a));
        CHECKS.refused("no second", NO_POLY, () -> g.equal(a, 50));
    }

    private static void termCounts() {
        ImageGcds g = new ImageGcds(2);
        int a = g.poly();
        for (int power = 0; power < 256; power++) {
            g.term(a, power + 1, 1, power);
            CHECKS.same("terms", power + 1, g.terms(a));
        }
        for (int power = 0; power < 256; power += 2) {
            g.term(a, 0, 1, power);
        }
        CHECKS.same("terms after some went", 128, g.terms(a));
        CHECKS.refused("no such one", NO_POLY, () -> g.terms(1));
        CHECKS.refused("one -1", NO_POLY, () -> g.terms(-1));
    }

    private static void termsInOrder() {
        ImageGcds g = new ImageGcds(3);
        int a = make(g, "5+z^15+y^15+x+x*z+x*y+2*x^2");
        shows("order", g, a, "2*x^2+x*y+x*z+x+y^15+z^15+5");
        CHECKS.same("power of the head", 2, g.at(a, 0, 1));
        CHECKS.same("its number", 2, g.at(a, 0, 0));
        CHECKS.same("power of x z", 257, g.at(a, 2, 1));
        CHECKS.same("power of the last one", 0, g.at(a, 6, 1));
        CHECKS.refused("term 7", BAD, () -> g.at(a, 7, 0));
        CHECKS.refused("term -1", BAD, () -> g.at(a, -1, 0));
        CHECKS.refused("what 2", BAD, () -> g.at(a, 0, 2));
        CHECKS.refused("what -1", BAD, () -> g.at(a, 0, -1));
        CHECKS.refused("no such one", NO_POLY, () -> g.at(1, 0, 0));
        CHECKS.refused("one -1", NO_POLY, () -> g.at(-1, 9, 9));
        int zero = g.poly();
        CHECKS.refused("term of 0", BAD, () -> g.at(zero, 0, 0));
    }

    private static void degrees() {
        ImageGcds g = new ImageGcds(3);
        int a = make(g, "x^2*y+y^15+3");
        CHECKS.same("degree at 0", 2, g.degree(a, 0));
        CHECKS.same("degree at 1", 15, g.degree(a, 1));
        CHECKS.same("degree at 2", 0, g.degree(a, 2));
        CHECKS.same("degree of 0", -1, g.degree(g.poly(), 2));
        g.term(a, 0, 1, 240);
        CHECKS.same("degree after a change", 1, g.degree(a, 1));
        CHECKS.refused("letter 3", BAD, () -> g.degree(a, 3));
        CHECKS.refused("letter -1", BAD, () -> g.degree(a, -1));
        CHECKS.refused("no such one", NO_POLY, () -> g.degree(5, 0));
    }

    private static void full() {
        ImageGcds g = new ImageGcds(3);
        int a = make(g, "x+1");
        while (g.count() < 60) {
            g.poly();
        }
        CHECKS.refused("poly", FULL, g::poly);
        CHECKS.refused("add", FULL, () -> g.add(a, a));
        CHECKS.refused("times", FULL, () -> g.times(a, a));
        CHECKS.refused("over", FULL, () -> g.over(a, a));
        CHECKS.refused("over that makes none", FULL, () -> g.over(a, 59));
        CHECKS.refused("gcd", FULL, () -> g.gcd(a, a));
        CHECKS.refused("resultant", FULL, () -> g.resultant(a, a, 0));
        CHECKS.refused("slope", FULL, () -> g.slope(a, 0));
        CHECKS.refused("content", FULL, () -> g.content(a, 0));
        CHECKS.refused("part", FULL, () -> g.part(a, 1));
        CHECKS.refused("image", FULL, () -> g.image(a, 0, 0));
        CHECKS.same("term goes on", true, g.term(59, 1, 1, 0));
        CHECKS.same("equal goes on", false, g.equal(a, 59));
        CHECKS.same("count", 60, g.count());
    }

    private static void firstException() {
        ImageGcds g = new ImageGcds(1);
        int high = make(g, "x^15");
        CHECKS.refused("term: polynomial first", NO_POLY, () -> g.term(1, 1, 0, 99));
        CHECKS.refused("term: power before 0", BAD, () -> g.term(high, 1, 0, 16));
        CHECKS.refused("at: polynomial first", NO_POLY, () -> g.at(1, -1, 7));
        CHECKS.refused("degree: polynomial first", NO_POLY, () -> g.degree(1, 7));
        while (g.count() < 60) {
            g.poly();
        }
        CHECKS.refused("times: polynomial first", NO_POLY, () -> g.times(high, 60));
        CHECKS.refused("times: room before exponents", FULL, () -> g.times(high, high));
        CHECKS.refused("add: polynomial first", NO_POLY, () -> g.add(60, high));
        CHECKS.refused("over: polynomial first", NO_POLY, () -> g.over(high, 60));
        CHECKS.refused("gcd: polynomial first", NO_POLY, () -> g.gcd(high, -1));
        CHECKS.refused("resultant: polynomial first", NO_POLY, () -> g.resultant(high, 60, 9));
        CHECKS.refused("resultant: room before letter", FULL, () -> g.resultant(high, high, 9));
        CHECKS.refused("slope: polynomial first", NO_POLY, () -> g.slope(60, 9));
        CHECKS.refused("slope: room before letter", FULL, () -> g.slope(high, 9));
        CHECKS.refused("content: polynomial first", NO_POLY, () -> g.content(60, 9));
        CHECKS.refused("content: room before letter", FULL, () -> g.content(high, 9));
        CHECKS.refused("part: polynomial first", NO_POLY, () -> g.part(60, 0));
        CHECKS.refused("part: room before times", FULL, () -> g.part(high, 0));
        CHECKS.refused("image: polynomial first", NO_POLY, () -> g.image(60, 9, 0));
        CHECKS.refused("image: room before letter", FULL, () -> g.image(high, 9, 0));
    }

    private static void nothingChanges() {
        ImageGcds g = new ImageGcds(2);
        int a = make(g, "x^9+y");
        Checks.outcome(() -> g.times(a, a));
        Checks.outcome(() -> g.part(a, 0));
        Checks.outcome(() -> g.slope(a, 2));
        Checks.outcome(() -> g.term(a, 5, 0, 9));
        CHECKS.same("count", 1, g.count());
        shows("the polynomial", g, a, "x^9+y");
        int product = g.times(a, make(g, "y-1"));
        g.gcd(a, product);
        g.part(product, 1);
        shows("an input stays", g, a, "x^9+y");
        shows("an input stays", g, product, "x^9*y-x^9+y^2-y");
    }
}
