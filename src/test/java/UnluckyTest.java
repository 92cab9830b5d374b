/**
 * Pairs whose images share more than they do themselves, at the numbers from 0 on and so at those
 * that a search by images is likely to take.
 */
public final class UnluckyTest {
    private static final Checks CHECKS = new Checks();

    public static void main(String[] args) {
        String[] factors = {"1", "x+y+z", "x*z-1", "x^2*z^2+y*z+3", "y*z+z^2+2", "z^3-z", "x*y*z-x+z"};
        for (String factor : factors) {
            shiftedRoots(factor, 0);
            shiftedRoots(factor, 1);
            shiftedRoots(factor, 2);
            meetingLines(factor);
            vanishingFronts(factor);
        }
        everyNumberUpToFifteen();
        CHECKS.end("UnluckyTest");
    }

    private static void check(String what, ImageGcds g, int shared, int a, int b) {
        int first = g.times(a, shared);
        int second = g.times(b, shared);
        int due = g.gcd(shared, g.poly());
        CHECKS.same(what, Checks.show(g, due), Checks.show(g, g.gcd(first, second)));
        CHECKS.same(what + " the other way", Checks.show(g, due), Checks.show(g, g.gcd(second, first)));
    }

    private static int productOf(ImageGcds g, String[] texts) {
        int answer = Checks.make(g, "1");
        for (String text : texts) {
            answer = g.times(answer, Checks.make(g, text));
        }
        return answer;
    }

    /** x is 0, 3, 6, 9 in one, z, z - 1, z - 2 in the other: they meet at z from 0 to 11. */
    private static void shiftedRoots(String shared, int extra) {
        ImageGcds g = new ImageGcds(3);
        int a = productOf(g, new String[] {"x", "x-3", "x-6", "x-9"});
        int b = productOf(g, new String[] {"x-z", "x-z+1", "x-z+2"});
        String[] more = {"1", "x*z^2+1", "y*z^3+x"};
        String[] others = {"1", "x*z^2+2", "y*z^3+x+1"};
        a = g.times(a, Checks.make(g, more[extra]));
        b = g.times(b, Checks.make(g, others[extra]));
        check("shifted roots, " + shared, g, Checks.make(g, shared), a, b);
    }

    private static void meetingLines(String shared) {
        ImageGcds g = new ImageGcds(3);
        int roots = productOf(g, new String[] {"z", "z-1", "z-2", "z-3", "z-4", "z-5", "z-6", "z-7"});
        int a = Checks.make(g, "x+y^2");
        int b = g.add(a, roots);
        check("meeting at eight numbers, " + shared, g, Checks.make(g, shared), a, b);
        int c = g.add(a, g.times(roots, Checks.make(g, "y")));
        check("meeting on lines, " + shared, g, Checks.make(g, shared), a, c);
    }

    private static void vanishingFronts(String shared) {
        ImageGcds g = new ImageGcds(3);
        int roots = productOf(g, new String[] {"z", "z-1", "z-2", "z-3", "y", "y-1", "y-2"});
        int front = g.times(roots, Checks.make(g, "x^3"));
        int a = g.add(front, Checks.make(g, "x+y"));
        int b = g.add(front, Checks.make(g, "x^2+2*x*y+y^2"));
        check("fronts that vanish, " + shared, g, Checks.make(g, shared), a, b);
    }

    private static void everyNumberUpToFifteen() {
        for (int letters = 2; letters <= 3; letters++) {
            ImageGcds g = new ImageGcds(letters);
            String last = letters == 2 ? "y" : "z";
            int a = Checks.make(g, "1");
            int b = Checks.make(g, "1");
            for (int i = 0; i < 4; i++) {
                a = g.times(a, Checks.make(g, "x-" + 4 * i));
                b = g.times(b, Checks.make(g, "x-" + last + "+" + i));
            }
            int shared = Checks.make(g, "x^3*" + last + "^4+x*" + last + "+7");
            check("sixteen numbers", g, shared, a, b);
            check("sixteen numbers, nothing shared", g, Checks.make(g, "5"), a, b);
            int many = g.times(g.times(a, a), Checks.make(g, "x*" + last + "^3-2"));
            check("with double roots", g, shared, many, b);
        }
    }
}
