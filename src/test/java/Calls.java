import java.util.LinkedHashMap;
import java.util.Map;

/** The calls of the face by what they have in common, so that a test can go through all of them. */
final class Calls {
    interface OnPoly {
        Object answer(ImageGcds g, int p);
    }

    interface AtLetter {
        Object answer(ImageGcds g, int p, int letter);
    }

    private Calls() {
    }

    /** Each place where a call names a polynomial; in the other places stands 0. */
    static Map<String, OnPoly> naming() {
        Map<String, OnPoly> calls = new LinkedHashMap<>();
        calls.put("term", (g, p) -> g.term(p, 1, 1, 0));
        calls.put("add, first", (g, p) -> g.add(p, 0));
        calls.put("add, second", (g, p) -> g.add(0, p));
        calls.put("times, first", (g, p) -> g.times(p, 0));
        calls.put("times, second", (g, p) -> g.times(0, p));
        calls.put("over, first", (g, p) -> g.over(p, 0));
        calls.put("over, second", (g, p) -> g.over(0, p));
        calls.put("gcd, first", (g, p) -> g.gcd(p, 0));
        calls.put("gcd, second", (g, p) -> g.gcd(0, p));
        calls.put("resultant, first", (g, p) -> g.resultant(p, 0, 0));
        calls.put("resultant, second", (g, p) -> g.resultant(0, p, 0));
        calls.put("slope", (g, p) -> g.slope(p, 0));
        calls.put("content", (g, p) -> g.content(p, 0));
        calls.put("part", (g, p) -> g.part(p, 1));
        calls.put("image", (g, p) -> g.image(p, 0, 1));
        calls.put("equal, first", (g, p) -> g.equal(p, 0));
        calls.put("equal, second", (g, p) -> g.equal(0, p));
        calls.put("terms", (g, p) -> g.terms(p));
        calls.put("at", (g, p) -> g.at(p, 0, 0));
        calls.put("degree", (g, p) -> g.degree(p, 0));
        return calls;
    }

    /** Each call that makes a polynomial, out of p alone. */
    static Map<String, OnPoly> making() {
        Map<String, OnPoly> calls = new LinkedHashMap<>();
        calls.put("poly", (g, p) -> g.poly());
        calls.put("add", (g, p) -> g.add(p, p));
        calls.put("times", (g, p) -> g.times(p, p));
        calls.put("over", (g, p) -> g.over(p, p));
        calls.put("gcd", (g, p) -> g.gcd(p, p));
        calls.put("resultant", (g, p) -> g.resultant(p, p, 0));
        calls.put("slope", (g, p) -> g.slope(p, 0));
        calls.put("content", (g, p) -> g.content(p, 0));
        calls.put("part", (g, p) -> g.part(p, 1));
        calls.put("image", (g, p) -> g.image(p, 0, 1));
        return calls;
    }

    /** Each call that names a letter. */
    static Map<String, AtLetter> lettered() {
        Map<String, AtLetter> calls = new LinkedHashMap<>();
        calls.put("resultant", (g, p, letter) -> g.resultant(p, p, letter));
        calls.put("slope", (g, p, letter) -> g.slope(p, letter));
        calls.put("content", (g, p, letter) -> g.content(p, letter));
        calls.put("image", (g, p, letter) -> g.image(p, letter, 1));
        calls.put("degree", (g, p, letter) -> g.degree(p, letter));
        return calls;
    }
}
