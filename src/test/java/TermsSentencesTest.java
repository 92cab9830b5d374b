import java.util.List;

/** For each sentence of "What it is" and "Terms" that names a boundary case, a test of its own. */
public final class TermsSentencesTest {
    private static final Class<IndexOutOfBoundsException> NO_POLY = IndexOutOfBoundsException.class;
    private static final Class<IllegalStateException> FULL = IllegalStateException.class;
    private static final Class<IllegalArgumentException> BAD = IllegalArgumentException.class;
    private static final int PRIME = 32003;
    private static final Checks CHECKS = new Checks();

    public static void main(String[] args) {
        manyCalls();
        laterCalls();
        numbers();
        numbersThatWrap();
        letters();
        exponents();
        powersAsNumbers();
        powersAbove();
        polynomialsInOrder();
        numbersThatAreNotZero();
        monic();
        degreeOfZero();
        everythingIsFactorOfZero();
        greatestDivisorOfZeros();
        rowsOfOneOnly();
        withoutRows();
        resultantOfZero();
        answersItsNumber();
        sixtyAreThere();
        noSuchPolynomial();
        CHECKS.end("TermsSentencesTest");
    }

    private static int make(ImageGcds g, String text) {
        return Checks.make(g, text);
    }

    private static void shows(String what, ImageGcds g, int p, String want) {
        CHECKS.same(what, want, Checks.show(g, p));
    }

    private static void fill(ImageGcds g, int count) {
        while (g.count() < count) {
            g.poly();
        }
    }

    private static void manyCalls() {
        CHECKS.sentence("An object is used for at most 512 calls after it has been made");
        ImageGcds g = new ImageGcds(3);
        int a = g.poly();
        int b = g.poly();
        g.term(a, 1, 1, 2);
        g.term(a, -1, 1, 32);
        g.term(b, 5, 1, 1);
        g.term(b, 5, 1, 16);
        for (int call = 7; call <= 509; call++) {
            CHECKS.same("call " + call, -1, g.over(b, a));
        }
        CHECKS.same("call 510", 2, g.gcd(a, b));
        CHECKS.same("call 511", 2, g.terms(2));
        CHECKS.same("call 512", 16, g.at(2, 1, 1));
    }

    /** Their answers are free, but the machine's own exceptions never are. */
    private static void laterCalls() {
        CHECKS.sentence("what later calls answer is free");
        ImageGcds g = new ImageGcds(2);
        int a = make(g, "x^2-y^2");
        int b = make(g, "x+3");
        for (int i = 0; i < 2000; i++) {
            int power = i % 300 - 20;
            int other = i % 70 - 5;
            List<String> outcomes = List.of(
                    Checks.outcome(() -> g.term(other, power, 1, power)),
                    Checks.outcome(() -> g.over(a, b)),
                    Checks.outcome(() -> g.gcd(other, a)),
                    Checks.outcome(() -> g.at(other, power, 1)));
            for (String outcome : outcomes) {
                boolean own = outcome.matches("throws Ill.*|throws IndexOutOfBoundsException|true|false|-?\\d+");
                CHECKS.same("later outcome " + outcome, true, own);
            }
        }
    }

    private static void numbers() {
        CHECKS.sentence("NUMBERS are modulo 32003, 0 .. 32002.");
        long[] given = {1, PRIME - 1, -1, PRIME + 1, -PRIME - 1, -PRIME + 1, 2L * PRIME - 1, Long.MAX_VALUE, Long.MIN_VALUE};
        ImageGcds g = new ImageGcds(1);
        int p = g.poly();
        for (long number : given) {
            g.term(p, number, 1, 3);
            CHECKS.same("number " + number, (int) Math.floorMod(number, (long) PRIME), g.at(p, 0, 0));
        }
        for (long number : new long[] {0, PRIME, -PRIME, 1000000007L * PRIME}) {
            g.term(p, 1, 1, 3);
            g.term(p, number, 1, 3);
            CHECKS.same("terms with " + number, 0, g.terms(p));
        }
    }

    private static void numbersThatWrap() {
        CHECKS.sentence("NUMBERS are modulo 32003, 0 .. 32002.");
        ImageGcds g = new ImageGcds(1);
        int last = make(g, "32002");
        CHECKS.same("32002 + 32002", 32001, g.at(g.add(last, last), 0, 0));
        CHECKS.same("32002 + 1", 0, g.terms(g.add(last, make(g, "1"))));
        CHECKS.same("32002 + 2", 1, g.at(g.add(last, make(g, "2")), 0, 0));
        CHECKS.same("32002 times 32002", 1, g.at(g.times(last, last), 0, 0));
        CHECKS.same("1 through 32002", 32002, g.at(g.over(make(g, "1"), last), 0, 0));
        CHECKS.same("slope", 32003 - 15, g.at(g.slope(make(g, "32002*x^15"), 0), 0, 0));
        CHECKS.same("image", 32002, g.at(g.image(make(g, "x^15"), 0, 32002), 0, 0));
        CHECKS.same("resultant", 1, g.at(g.resultant(make(g, "x"), make(g, "x+1"), 0), 0, 0));
        CHECKS.same("resultant", 32002, g.at(g.resultant(make(g, "x+1"), make(g, "x"), 0), 0, 0));
    }

    private static void letters() {
        CHECKS.sentence("LETTERS are 0 .. n - 1.");
        for (int n = 1; n <= 3; n++) {
            ImageGcds g = new ImageGcds(n);
            int p = make(g, "x+1");
            for (var call : Calls.lettered().entrySet()) {
                for (int letter : new int[] {Integer.MIN_VALUE, -1, n, 3, Integer.MAX_VALUE}) {
                    String what = call.getKey() + " at letter " + letter + " of " + n;
                    CHECKS.refused(what, BAD, () -> call.getValue().answer(g, p, letter));
                }
                for (int letter = 0; letter < n; letter++) {
                    String outcome = outcome(call.getValue(), g, p, letter);
                    CHECKS.same(call.getKey() + " at letter " + letter, true, outcome.matches("\\d+"));
                }
            }
        }
    }

    private static String outcome(Calls.AtLetter call, ImageGcds g, int p, int letter) {
        return Checks.outcome(() -> call.answer(g, p, letter));
    }

    private static void exponents() {
        CHECKS.sentence("A POWER is a row of exponents, 0 .. 15 each");
        for (int n = 1; n <= 3; n++) {
            ImageGcds g = new ImageGcds(n);
            int p = g.poly();
            int all = 1 << 4 * n;
            for (int power : new int[] {0, 15, all - 1}) {
                g.term(p, 0, 1, power);
                CHECKS.same("power " + power + " of " + n, true, g.term(p, 1, 1, power));
            }
            for (int power : new int[] {Integer.MIN_VALUE, -1, all, all + 1, Integer.MAX_VALUE}) {
                CHECKS.refused("power " + power + " of " + n, BAD, () -> g.term(p, 1, 1, power));
            }
        }
    }

    private static void powersAsNumbers() {
        CHECKS.sentence("that of letter 0, 16 times that of letter 1, 256 times that of letter 2");
        ImageGcds g = new ImageGcds(3);
        int p = g.poly();
        for (int power = 0; power < 4096; power++) {
            g.term(p, 1, 1, power);
            CHECKS.same("letter 0 of " + power, power % 16, g.degree(p, 0));
            CHECKS.same("letter 1 of " + power, power / 16 % 16, g.degree(p, 1));
            CHECKS.same("letter 2 of " + power, power / 256, g.degree(p, 2));
            CHECKS.same("power " + power, power, g.at(p, 0, 1));
            g.term(p, 0, 1, power);
        }
    }

    private static void powersAbove() {
        CHECKS.sentence("A power is ABOVE another one if at the first letter where they differ its exponent is greater.");
        ImageGcds g = new ImageGcds(3);
        int[][] pairs = {{1, 0}, {16, 0}, {256, 0}, {1, 16}, {1, 256}, {16, 256}, {1, 240}, {1, 3840}, {1, 4080},
            {16, 3840}, {17, 1}, {257, 1}, {272, 16}, {15, 14 + 4080}, {31, 15 + 3840}, {4095, 3839}};
        for (int[] pair : pairs) {
            int p = g.poly();
            g.term(p, 7, 1, pair[1]);
            g.term(p, 5, 1, pair[0]);
            CHECKS.same("head of " + pair[0] + " and " + pair[1], pair[0], g.at(p, 0, 1));
            CHECKS.same("number of that head", 5, g.at(p, 0, 0));
            CHECKS.same("the other one", pair[1], g.at(p, 1, 1));
            int other = g.poly();
            g.term(other, 5, 1, pair[0]);
            g.term(other, 7, 1, pair[1]);
            CHECKS.same("in whatever order they come", true, g.equal(p, other));
        }
    }

    private static void polynomialsInOrder() {
        CHECKS.sentence("POLYNOMIALS, 0 .. 59 in the order in which they were made");
        ImageGcds g = new ImageGcds(2);
        for (int i = 0; i < 60; i++) {
            CHECKS.same("number", i, g.poly());
            g.term(i, i + 1, 1, i);
        }
        for (int i = 0; i < 60; i++) {
            CHECKS.same("polynomial " + i + " stays", i + 1, g.at(i, 0, 0));
            CHECKS.same("polynomial " + i + " stays", i, g.at(i, 0, 1));
        }
        CHECKS.refused("polynomial 60", NO_POLY, () -> g.terms(60));
    }

    private static void numbersThatAreNotZero() {
        CHECKS.sentence("are sums of numbers that aren't 0 times powers, their TERMS");
        ImageGcds g = new ImageGcds(2);
        int a = make(g, "x^2+x*y+y^2");
        g.term(a, 0, 5, 17);
        shows("term", g, a, "x^2+y^2");
        shows("add", g, g.add(make(g, "x+y+1"), make(g, "x-y-1")), "2*x");
        shows("times", g, g.times(make(g, "x+y"), make(g, "x-y")), "x^2-y^2");
        shows("over", g, g.over(make(g, "x^2-y^2"), make(g, "x-y")), "x+y");
        shows("gcd", g, g.gcd(make(g, "x^3*y-y"), make(g, "x^4*y-x*y")), "x^3*y-y");
        shows("resultant", g, g.resultant(make(g, "x-y"), make(g, "x^2+x-2"), 0), "y^2+y-2");
        shows("slope", g, g.slope(make(g, "x+y+1"), 0), "1");
        shows("content", g, g.content(make(g, "x*y^2-x"), 0), "y^2-1");
        shows("part", g, g.part(make(g, "x^2-2*x*y+y^2"), 2), "x-y");
        shows("image", g, g.image(make(g, "x*y-x+y"), 1, 1), "1");
    }

    private static void monic() {
        CHECKS.sentence("MONIC is one whose HEAD has the number 1 (and 0).");
        for (int n = 1; n <= 3; n++) {
            ImageGcds g = new ImageGcds(n);
            String last = "xyz".substring(n - 1, n);
            int a = make(g, "5*" + last + "^2+10");
            int zero = g.poly();
            shows("gcd with itself", g, g.gcd(a, a), last + "^2+2");
            shows("gcd with a product", g, g.gcd(a, g.times(a, make(g, "7*x-1"))), last + "^2+2");
            shows("gcd with 0", g, g.gcd(a, zero), last + "^2+2");
            shows("part", g, g.part(a, 1), last + "^2+2");
            shows("content", g, g.content(g.times(a, make(g, "3*x")), 0), n == 1 ? "1" : last + "^2+2");
            shows("gcd of numbers", g, g.gcd(make(g, "5"), make(g, "32002")), "1");
            shows("gcd of a number and 0", g, g.gcd(make(g, "5"), zero), "1");
        }
    }

    private static void degreeOfZero() {
        CHECKS.sentence("The DEGREE at a letter is the greatest exponent, -1 of 0.");
        for (int n = 1; n <= 3; n++) {
            ImageGcds g = new ImageGcds(n);
            int zero = g.poly();
            int number = make(g, "8");
            int high = g.poly();
            g.term(high, 1, 1, 0);
            g.term(high, 1, 1, (1 << 4 * n) - 1);
            for (int letter = 0; letter < n; letter++) {
                CHECKS.same("degree of 0", -1, g.degree(zero, letter));
                CHECKS.same("degree of a number", 0, g.degree(number, letter));
                CHECKS.same("greatest of all", 15, g.degree(high, letter));
            }
            g.term(number, 0, 1, 0);
            CHECKS.same("degree of what became 0", -1, g.degree(number, n - 1));
        }
    }

    private static void everythingIsFactorOfZero() {
        CHECKS.sentence("(everything is one of 0)");
        for (String text : new String[] {"x^15*y^15*z^15", "x+y+z", "y^2-1", "z", "1"}) {
            ImageGcds g = new ImageGcds(3);
            int a = make(g, text);
            int zero = g.poly();
            shows("gcd of 0 and it", g, g.gcd(zero, a), text);
            shows("gcd of it and 0", g, g.gcd(a, zero), text);
            shows("0 through it", g, g.over(zero, a), "0");
        }
    }

    private static void greatestDivisorOfZeros() {
        CHECKS.sentence("of 0 and 0 it is 0");
        for (int n = 1; n <= 3; n++) {
            ImageGcds g = new ImageGcds(n);
            int zero = g.poly();
            shows("gcd with itself", g, g.gcd(zero, zero), "0");
            shows("gcd with another 0", g, g.gcd(zero, g.poly()), "0");
            for (int letter = 0; letter < n; letter++) {
                shows("content of 0, all of whose numbers are 0", g, g.content(zero, letter), "0");
            }
        }
    }

    private static void rowsOfOneOnly() {
        CHECKS.sentence("row r, for r below k, has a m .. a 0 from column r on, row k + r, for r below m, b k .. b 0");
        ImageGcds g = new ImageGcds(2);
        int number = make(g, "3*y");
        int high = make(g, "x^15+x+1");
        shows("15 rows of a, none of b", g, g.resultant(make(g, "2"), high, 0), "765");
        shows("15 rows of b, none of a", g, g.resultant(high, make(g, "2"), 0), "765");
        shows("one row of each", g, g.resultant(make(g, "x+y"), make(g, "2*x+1"), 0), "-2*y+1");
        shows("one row of a", g, g.resultant(number, make(g, "x+5"), 0), "3*y");
        shows("one row of b", g, g.resultant(make(g, "x+5"), number, 0), "3*y");
    }

    private static void withoutRows() {
        CHECKS.sentence("Without rows it is 1");
        for (int n = 1; n <= 3; n++) {
            ImageGcds g = new ImageGcds(n);
            for (int letter = 0; letter < n; letter++) {
                shows("of numbers", g, g.resultant(make(g, "6"), make(g, "32002"), letter), "1");
            }
        }
        ImageGcds g = new ImageGcds(3);
        shows("at letter 0", g, g.resultant(make(g, "y^15*z^15+3"), make(g, "y^15-z^15"), 0), "1");
        shows("at letter 1", g, g.resultant(make(g, "x^15*z^15+3"), make(g, "x^15-z^15"), 1), "1");
        shows("at letter 2", g, g.resultant(make(g, "x^15*y^15+3"), make(g, "x^15-y^15"), 2), "1");
    }

    private static void resultantOfZero() {
        CHECKS.sentence("if a or b is 0 it is 0");
        for (int n = 1; n <= 3; n++) {
            ImageGcds g = new ImageGcds(n);
            int zero = g.poly();
            for (int letter = 0; letter < n; letter++) {
                for (String text : new String[] {"x^15+1", "x-1", "4", ""}) {
                    int other = make(g, text);
                    shows("of 0 and " + text, g, g.resultant(zero, other, letter), "0");
                    shows("of " + text + " and 0", g, g.resultant(other, zero, letter), "0");
                }
            }
        }
    }

    private static void answersItsNumber() {
        CHECKS.sentence("A call that makes a polynomial answers its number.");
        for (var call : Calls.making().entrySet()) {
            ImageGcds g = new ImageGcds(2);
            int p = make(g, "2*x*y+y");
            for (int due = 1; due < 60; due++) {
                CHECKS.same(call.getKey(), due, call.getValue().answer(g, p));
                CHECKS.same("count after " + call.getKey(), due + 1, g.count());
            }
            shows("the first one after " + call.getKey(), g, p, "2*x*y+y");
        }
    }

    private static void sixtyAreThere() {
        CHECKS.sentence("IllegalStateException: 60 are there.");
        for (var call : Calls.making().entrySet()) {
            ImageGcds g = new ImageGcds(3);
            int p = make(g, "x+1");
            fill(g, 59);
            CHECKS.same("with 59, " + call.getKey(), 59, call.getValue().answer(g, p));
            CHECKS.refused("with 60, " + call.getKey(), FULL, () -> call.getValue().answer(g, p));
            CHECKS.refused("with 60 again, " + call.getKey(), FULL, () -> call.getValue().answer(g, p));
            CHECKS.same("count", 60, g.count());
        }
        ImageGcds g = new ImageGcds(3);
        int p = make(g, "x+1");
        int other = make(g, "x");
        int zero = g.poly();
        fill(g, 60);
        CHECKS.refused("over that has no answer", FULL, () -> g.over(p, other));
        CHECKS.refused("over 0", FULL, () -> g.over(p, zero));
        CHECKS.same("term makes none", true, g.term(59, 1, 1, 0));
        CHECKS.same("equal makes none", false, g.equal(p, 59));
        CHECKS.same("terms makes none", 1, g.terms(59));
        CHECKS.same("at makes none", 1, g.at(59, 0, 0));
        CHECKS.same("degree makes none", 0, g.degree(59, 2));
    }

    private static void noSuchPolynomial() {
        CHECKS.sentence("IndexOutOfBoundsException: no such polynomial.");
        for (var call : Calls.naming().entrySet()) {
            for (int count : new int[] {0, 1, 58, 60}) {
                ImageGcds g = new ImageGcds(3);
                for (int i = 0; i < count; i++) {
                    make(g, "x");
                }
                for (int p : new int[] {Integer.MIN_VALUE, -60, -1, count, count + 1, 60, Integer.MAX_VALUE}) {
                    String what = call.getKey() + " of " + p + " with " + count;
                    CHECKS.refused(what, NO_POLY, () -> call.getValue().answer(g, p));
                }
                if (count == 58) {
                    String outcome = Checks.outcome(() -> call.getValue().answer(g, 57));
                    CHECKS.same(call.getKey() + " of the last one", false, outcome.startsWith("throws"));
                }
            }
        }
    }
}
