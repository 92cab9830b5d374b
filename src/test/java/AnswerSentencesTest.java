/** For each sentence of the promises from 7 on that names a boundary case, a test of its own. */
public final class AnswerSentencesTest {
    private static final Class<IllegalArgumentException> BAD = IllegalArgumentException.class;
    private static final int PRIME = 32003;
    private static final String ALL_HIGH = "x^15*y^15*z^15";
    private static final Checks CHECKS = new Checks();

    public static void main(String[] args) {
        divisorsAtTheEdges();
        resultantsUpToFifteen();
        resultantsAboveFifteen();
        resultantsOwnLetter();
        resultantsDegreesOfZero();
        slopesAtTheEdges();
        contentsAtTheEdges();
        partsThatAre();
        partsThatAreNone();
        partOfZero();
        partNotSoOften();
        imagesOfAllNumbers();
        imagesAtZero();
        equalOrNot();
        termsFromNoneToAll();
        termsInOrder();
        noSuchTerm();
        anotherWhat();
        degreesUpToFifteen();
        countsFromNoneToAll();
        CHECKS.end("AnswerSentencesTest");
    }

    private static int make(ImageGcds g, String text) {
        return Checks.make(g, text);
    }

    private static void shows(String what, ImageGcds g, int p, String want) {
        CHECKS.same(what, want, Checks.show(g, p));
    }

    private static int raised(ImageGcds g, int base, int exponent) {
        int answer = make(g, "1");
        for (int i = 0; i < exponent; i++) {
            answer = g.times(answer, base);
        }
        return answer;
    }

    /** The product of (letter + 1) for each letter. */
    private static int corners(ImageGcds g, int letters) {
        int answer = make(g, "1");
        for (int letter = 0; letter < letters; letter++) {
            answer = g.times(answer, make(g, "xyz".charAt(letter) + "+1"));
        }
        return answer;
    }

    /** A term at each power, each with another number. */
    private static int withAllTerms(ImageGcds g, int letters) {
        int answer = g.poly();
        for (int power = 0; power < 1 << 4 * letters; power++) {
            g.term(answer, power + 1, 1, power);
        }
        return answer;
    }

    private static void divisorsAtTheEdges() {
        CHECKS.sentence("The GREATEST DIVISOR.");
        for (int n = 1; n <= 3; n++) {
            ImageGcds g = new ImageGcds(n);
            int a = raised(g, corners(g, n), 15);
            CHECKS.same("terms", 1 << 4 * n, g.terms(a));
            CHECKS.same("with all exponents 15, with itself", true, g.equal(a, g.gcd(a, a)));
            CHECKS.same("with its double", true, g.equal(a, g.gcd(g.add(a, a), a)));
            shows("with a number", g, g.gcd(a, make(g, "32002")), "1");
            shows("with a factor", g, g.gcd(make(g, "3*x^2-3"), a), "x+1");
            shows("with no factor", g, g.gcd(make(g, "x^15+2"), a), "1");
        }
        ImageGcds g = new ImageGcds(3);
        shows("of powers", g, g.gcd(make(g, ALL_HIGH), make(g, "5*x^14*z")), "x^14*z");
        shows("of letters", g, g.gcd(make(g, "y"), make(g, "z")), "1");
        int a = make(g, "x");
        int same = g.gcd(a, a);
        g.term(same, 1, 1, 0);
        shows("the answer is another one than a", g, a, "x");
    }

    private static void resultantsUpToFifteen() {
        CHECKS.sentence("The RESULTANT.");
        ImageGcds g = new ImageGcds(3);
        shows("m times b's 15", g, g.resultant(make(g, "x"), make(g, "x+y^15+z^15"), 0), "y^15+z^15");
        shows("k times a's 15", g, g.resultant(make(g, "x+y^15-z^15"), make(g, "x"), 0), "-y^15+z^15");
        shows("7 and 8", g, g.resultant(make(g, "x+y^7"), make(g, "x-y^8"), 0), "-y^8-y^7");
        shows("3 times 5", g, g.resultant(make(g, "x^3"), make(g, "x+y^5"), 0), "y^15");
        shows("15 times 1", g, g.resultant(make(g, "x^15"), make(g, "y-x"), 0), "y^15");
        int power = raised(g, make(g, "x+y"), 15);
        int answer = g.resultant(make(g, "z^15"), make(g, "z+x+y"), 2);
        shows("15 at both others", g, answer, Checks.show(g, power));
        answer = g.resultant(make(g, "y+x+z"), make(g, "y^15"), 1);
        shows("15 at both others", g, answer, Checks.show(g, raised(g, make(g, "-x-z"), 15)));
    }

    private static void resultantsAboveFifteen() {
        CHECKS.sentence("for another letter m times b's degree there and k times a's together are above 15");
        int[] degrees = {0, 1, 2, 3, 4, 5, 7, 8, 15};
        for (int m : degrees) {
            for (int k : degrees) {
                for (int first : degrees) {
                    for (int second : degrees) {
                        int all = m * second + k * first;
                        if (all >= 14 && all <= 17) {
                            resultantIsThere(m, k, first, second);
                        }
                    }
                }
            }
        }
    }

    private static void resultantIsThere(int m, int k, int first, int second) {
        for (int n = 2; n <= 3; n++) {
            for (int letter = 0; letter < n; letter++) {
                for (int other = 0; other < n; other++) {
                    if (other != letter) {
                        ImageGcds g = new ImageGcds(n);
                        int a = twoPowers(g, letter, m, other, first);
                        int b = twoPowers(g, letter, k, other, second);
                        int at = letter;
                        String due = m * second + k * first > 15 ? "throws IllegalArgumentException" : "2";
                        String what = "degrees " + m + " " + k + " " + first + " " + second + " at " + letter + " and " + other;
                        CHECKS.same(what, due, Checks.outcome(() -> g.resultant(a, b, at)));
                    }
                }
            }
        }
    }

    private static int twoPowers(ImageGcds g, int letter, int exponent, int other, int otherExponent) {
        int answer = g.poly();
        g.term(answer, 1, 1, exponent << 4 * letter);
        g.term(answer, 2, 1, otherExponent << 4 * other);
        return answer;
    }

    private static void resultantsOwnLetter() {
        CHECKS.sentence("for another letter m times b's degree there and k times a's together are above 15");
        for (int n = 1; n <= 3; n++) {
            for (int letter = 0; letter < n; letter++) {
                ImageGcds g = new ImageGcds(n);
                String high = "xyz".charAt(letter) + "^15";
                shows("15 and 15 at the letter itself", g, g.resultant(make(g, high + "-2"), make(g, high + "-3"), letter), "-1");
            }
        }
    }

    private static void resultantsDegreesOfZero() {
        CHECKS.sentence("(degrees of 0 count as 0)");
        ImageGcds g = new ImageGcds(3);
        int high = make(g, ALL_HIGH);
        int zero = g.poly();
        for (int letter = 0; letter < 3; letter++) {
            shows("of 0 and a high one", g, g.resultant(zero, high, letter), "0");
            shows("of a high one and 0", g, g.resultant(high, zero, letter), "0");
            shows("of 0 and 0", g, g.resultant(zero, zero, letter), "0");
            int at = letter;
            CHECKS.refused("of two high ones", BAD, () -> g.resultant(high, high, at));
        }
        CHECKS.refused("of 0, no such letter", BAD, () -> g.resultant(zero, zero, 3));
    }

    private static void slopesAtTheEdges() {
        CHECKS.sentence("The slope: each exponent of the letter one less, its term times that.");
        ImageGcds g = new ImageGcds(3);
        int high = make(g, ALL_HIGH);
        shows("15 at letter 0", g, g.slope(high, 0), "15*x^14*y^15*z^15");
        shows("15 at letter 1", g, g.slope(high, 1), "15*x^15*y^14*z^15");
        shows("15 at letter 2", g, g.slope(high, 2), "15*x^15*y^15*z^14");
        shows("exponent 1", g, g.slope(make(g, "-7*y"), 1), "-7");
        shows("exponent 0", g, g.slope(make(g, "x^15*z^15+1"), 1), "0");
        shows("of a number", g, g.slope(make(g, "9"), 2), "0");
        shows("of 0", g, g.slope(g.poly(), 2), "0");
        int all = withAllTerms(g, 3);
        for (int letter = 0; letter < 3; letter++) {
            int slope = g.slope(all, letter);
            CHECKS.same("terms of the slope of all", 15 * 256, g.terms(slope));
            CHECKS.same("degree of it", 14, g.degree(slope, letter));
            CHECKS.same("number of its head", 15 * 4096 % PRIME, g.at(slope, 0, 0));
        }
    }

    private static void contentsAtTheEdges() {
        CHECKS.sentence("The GREATEST DIVISOR of all that a has at powers of a letter, polynomials in the others.");
        for (int n = 1; n <= 3; n++) {
            ImageGcds g = new ImageGcds(n);
            int zero = g.poly();
            int number = make(g, "12");
            int high = make(g, "4*x^15");
            int power = raised(g, corners(g, n), 3);
            for (int letter = 0; letter < n; letter++) {
                String name = "xyz".substring(letter, letter + 1);
                shows("of 0", g, g.content(zero, letter), "0");
                shows("of a number", g, g.content(number, letter), "1");
                shows("of a power", g, g.content(high, letter), letter == 0 ? "1" : "x^15");
                int shared = g.over(power, raised(g, make(g, name + "+1"), 3));
                shows("of a product", g, g.content(power, letter), Checks.show(g, shared));
            }
        }
        ImageGcds g = new ImageGcds(3);
        shows("of all exponents 15", g, g.content(make(g, "6*" + ALL_HIGH), 1), "x^15*z^15");
        shows("without the letter", g, g.content(make(g, "3*x-6*y"), 2), "x-2*y");
    }

    private static void partsThatAre() {
        CHECKS.sentence("The product of all MONIC prime ones that are FACTORS of a just k times");
        for (int n = 1; n <= 3; n++) {
            for (int often : new int[] {1, 2, 14, 15}) {
                ImageGcds g = new ImageGcds(n);
                int base = corners(g, n);
                int a = g.times(raised(g, base, often), make(g, "32002"));
                shows("just " + often, g, g.part(a, often), Checks.show(g, base));
                shows("once more than that", g, g.part(a, often + 1), "1");
                if (often > 1) {
                    shows("once less than that", g, g.part(a, often - 1), "1");
                }
            }
        }
        ImageGcds g = new ImageGcds(3);
        int mixed = make(g, "5*x^15*y^14*z");
        shows("15 times", g, g.part(mixed, 15), "x");
        shows("14 times", g, g.part(mixed, 14), "y");
        shows("once", g, g.part(mixed, 1), "z");
    }

    private static void partsThatAreNone() {
        CHECKS.sentence("(1 if none is)");
        ImageGcds g = new ImageGcds(3);
        int high = make(g, "7*" + ALL_HIGH);
        for (int k = 1; k <= 45; k++) {
            shows("just " + k, g, g.part(high, k), k == 15 ? "x*y*z" : "1");
        }
        for (int n = 1; n <= 3; n++) {
            ImageGcds one = new ImageGcds(n);
            int number = make(one, "32002");
            for (int k = 1; k <= 45; k++) {
                shows("of a number, just " + k, one, one.part(number, k), "1");
            }
        }
    }

    private static void partOfZero() {
        CHECKS.sentence("IllegalArgumentException: a is 0");
        for (int n = 1; n <= 3; n++) {
            ImageGcds g = new ImageGcds(n);
            int zero = g.poly();
            int became = make(g, "x");
            g.term(became, 0, 1, 1);
            for (int k : new int[] {0, 1, 2, 45, 46}) {
                CHECKS.refused("of 0, just " + k, BAD, () -> g.part(zero, k));
                CHECKS.refused("of what became 0, just " + k, BAD, () -> g.part(became, k));
            }
        }
    }

    private static void partNotSoOften() {
        CHECKS.sentence("or k isn't 1 .. 45");
        for (int n = 1; n <= 3; n++) {
            ImageGcds g = new ImageGcds(n);
            for (String text : new String[] {"x^2-1", "5"}) {
                int a = make(g, text);
                for (int k : new int[] {Integer.MIN_VALUE, -45, -1, 0, 46, 47, 60, Integer.MAX_VALUE}) {
                    CHECKS.refused("just " + k + " in " + text, BAD, () -> g.part(a, k));
                }
                shows("just 1 in " + text, g, g.part(a, 1), text.equals("5") ? "1" : text);
                shows("just 45 in " + text, g, g.part(a, 45), "1");
            }
        }
    }

    private static void imagesOfAllNumbers() {
        CHECKS.sentence("a with a number in place of a letter");
        int[] numbers = {1, -1, 2, PRIME - 1, PRIME + 1, -PRIME - 1, -PRIME + 1, Integer.MAX_VALUE, Integer.MIN_VALUE};
        for (int letter = 0; letter < 3; letter++) {
            ImageGcds g = new ImageGcds(3);
            int a = make(g, "xyz".substring(letter, letter + 1));
            int high = make(g, "3*" + ALL_HIGH);
            for (int v : numbers) {
                long modulo = Math.floorMod(v, PRIME);
                CHECKS.same(v + " for letter " + letter, modulo, (long) g.at(g.image(a, letter, v), 0, 0));
                long due = 3;
                for (int i = 0; i < 15; i++) {
                    due = due * modulo % PRIME;
                }
                int image = g.image(high, letter, v);
                CHECKS.same(v + " to the 15th", due, (long) g.at(image, 0, 0));
                CHECKS.same("the others stay", 4095 - (15 << 4 * letter), g.at(image, 0, 1));
            }
        }
    }

    private static void imagesAtZero() {
        CHECKS.sentence("a with a number in place of a letter");
        ImageGcds g = new ImageGcds(3);
        int a = make(g, "x^15*y-4*x+y*z+5");
        for (int v : new int[] {0, PRIME, -PRIME, 3 * PRIME}) {
            shows(v + " for letter 0", g, g.image(a, 0, v), "y*z+5");
            shows(v + " for letter 1", g, g.image(a, 1, v), "-4*x+5");
            shows(v + " for letter 2", g, g.image(a, 2, v), "x^15*y-4*x+5");
        }
        shows("of a number", g, g.image(make(g, "8"), 1, 0), "8");
        shows("of a letter", g, g.image(make(g, "z^15"), 2, 0), "0");
        shows("of 0", g, g.image(g.poly(), 2, 7), "0");
        shows("terms that meet", g, g.image(make(g, "x^2*y+x*y+y"), 0, 2), "7*y");
        shows("terms that go", g, g.image(make(g, "x^2*y-4*y"), 0, 2), "0");
    }

    private static void equalOrNot() {
        CHECKS.sentence("Whether two are the same.");
        ImageGcds g = new ImageGcds(3);
        int zero = g.poly();
        int a = make(g, "x*y+z");
        CHECKS.same("0 and itself", true, g.equal(zero, zero));
        CHECKS.same("0 and another 0", true, g.equal(zero, g.poly()));
        CHECKS.same("0 and a sum that is 0", true, g.equal(zero, g.add(a, make(g, "-x*y-z"))));
        CHECKS.same("itself", true, g.equal(a, a));
        CHECKS.same("made otherwise", true, g.equal(a, make(g, "z+x*y")));
        String[] others = {"", "1", "x*y", "z", "x*y+z+1", "2*x*y+z", "x*y+2*z", "x*z+z", "x*y+y", "x^2*y+z", "x*y+z^2", "-x*y-z"};
        for (String text : others) {
            int other = make(g, text);
            CHECKS.same("x*y+z and " + text, false, g.equal(a, other));
            CHECKS.same(text + " and x*y+z", false, g.equal(other, a));
        }
    }

    private static void termsFromNoneToAll() {
        CHECKS.sentence("How many TERMS it has.");
        for (int n = 1; n <= 3; n++) {
            ImageGcds g = new ImageGcds(n);
            int p = g.poly();
            CHECKS.same("of 0", 0, g.terms(p));
            int all = withAllTerms(g, n);
            CHECKS.same("of all", 1 << 4 * n, g.terms(all));
            for (int power = 0; power < 1 << 4 * n; power++) {
                g.term(all, 0, 1, power);
            }
            CHECKS.same("of what became 0", 0, g.terms(all));
        }
    }

    private static void termsInOrder() {
        CHECKS.sentence("Of the k-th TERM, the HEAD first, each ABOVE the next: what 0 its number, 1 its power.");
        for (int n = 1; n <= 3; n++) {
            ImageGcds g = new ImageGcds(n);
            int all = withAllTerms(g, n);
            int k = 0;
            for (int x = 15; x >= 0; x--) {
                for (int y = n > 1 ? 15 : 0; y >= 0; y--) {
                    for (int z = n > 2 ? 15 : 0; z >= 0; z--) {
                        int power = x + 16 * y + 256 * z;
                        CHECKS.same("number of term " + k, power + 1, g.at(all, k, 0));
                        CHECKS.same("power of term " + k, power, g.at(all, k, 1));
                        k++;
                    }
                }
            }
        }
    }

    private static void noSuchTerm() {
        CHECKS.sentence("IllegalArgumentException: no such TERM");
        ImageGcds g = new ImageGcds(3);
        int[] polys = {g.poly(), make(g, "4"), make(g, "x+y+z"), withAllTerms(g, 3)};
        for (int p : polys) {
            int terms = g.terms(p);
            for (int k : new int[] {Integer.MIN_VALUE, -1, terms, terms + 1, 4096, Integer.MAX_VALUE}) {
                CHECKS.refused("number of term " + k + " of " + terms, BAD, () -> g.at(p, k, 0));
                CHECKS.refused("power of term " + k + " of " + terms, BAD, () -> g.at(p, k, 1));
            }
            if (terms > 0) {
                CHECKS.same("number of the last one", true, g.at(p, terms - 1, 0) > 0);
            }
        }
        int shorter = make(g, "x+y");
        g.term(shorter, 0, 1, 1);
        CHECKS.refused("a term that went", BAD, () -> g.at(shorter, 1, 0));
    }

    private static void anotherWhat() {
        CHECKS.sentence("another what");
        ImageGcds g = new ImageGcds(2);
        int a = make(g, "3*x*y+1");
        for (int what : new int[] {Integer.MIN_VALUE, -1, 2, 3, Integer.MAX_VALUE}) {
            CHECKS.refused("what " + what, BAD, () -> g.at(a, 0, what));
            CHECKS.refused("what " + what + " and no such term", BAD, () -> g.at(a, 2, what));
        }
        CHECKS.same("what 0", 3, g.at(a, 0, 0));
        CHECKS.same("what 1", 17, g.at(a, 0, 1));
    }

    private static void degreesUpToFifteen() {
        CHECKS.sentence("The DEGREE at a letter.");
        for (int letter = 0; letter < 3; letter++) {
            ImageGcds g = new ImageGcds(3);
            int p = make(g, letter == 0 ? "1" : "x");
            for (int exponent = 0; exponent <= 15; exponent++) {
                g.term(p, 1, 1, exponent << 4 * letter);
                CHECKS.same("degree at " + letter, exponent, g.degree(p, letter));
            }
            g.term(p, 0, 1, 15 << 4 * letter);
            CHECKS.same("degree after the highest went", 14, g.degree(p, letter));
        }
    }

    private static void countsFromNoneToAll() {
        CHECKS.sentence("How many there are.");
        ImageGcds g = new ImageGcds(3);
        CHECKS.same("of a new object", 0, g.count());
        int a = make(g, "x");
        int b = make(g, "y");
        CHECKS.same("after terms", 2, g.count());
        g.over(a, b);
        g.equal(a, b);
        CHECKS.same("after calls that make none", 2, g.count());
        Checks.outcome(() -> g.slope(a, 9));
        Checks.outcome(() -> g.add(a, 9));
        CHECKS.same("after refused calls", 2, g.count());
        for (int due = 3; due <= 60; due++) {
            g.gcd(a, b);
            CHECKS.same("after one more", due, g.count());
        }
        Checks.outcome(() -> g.gcd(a, b));
        CHECKS.same("after one too many", 60, g.count());
    }
}
