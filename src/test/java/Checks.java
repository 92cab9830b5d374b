/** Counts wrong answers and prints them; polynomials are written as texts like "x^2*y-3*z+1". */
final class Checks {
    private static final String LETTERS = "xyz";
    private static final int PRIME = 32003;
    private int wrong;
    private int all;
    private String sentence = "";

    /** A call whose answer or exception is looked at. */
    interface Call {
        Object answer();
    }

    /** The sentence of the document that the checks from here on are for. */
    void sentence(String text) {
        sentence = "\"" + text + "\": ";
    }

    void same(String what, Object want, Object got) {
        all++;
        if (!want.equals(got)) {
            wrong++;
            System.out.println(sentence + what + " answered " + got + ", due is " + want);
        }
    }

    void refused(String what, Class<? extends RuntimeException> want, Call call) {
        same(what, "throws " + want.getSimpleName(), outcome(call));
    }

    static String outcome(Call call) {
        try {
            return String.valueOf(call.answer());
        } catch (RuntimeException e) {
            return "throws " + e.getClass().getSimpleName();
        }
    }

    void end(String name) {
        System.out.println(name + ": " + all + " checks, " + wrong + " wrong");
        if (wrong != 0 || all == 0) {
            System.exit(1);
        }
    }

    /** Makes a polynomial from its text and answers its number. */
    static int make(ImageGcds g, String text) {
        int p = g.poly();
        String spaced = text.replace("-", "+-");
        for (String term : spaced.split("\\+")) {
            if (!term.isEmpty()) {
                setTerm(g, p, term);
            }
        }
        return p;
    }

    private static void setTerm(ImageGcds g, int p, String term) {
        long number = 1;
        int power = 0;
        String body = term;
        if (body.startsWith("-")) {
            number = -1;
            body = body.substring(1);
        }
        for (String factor : body.split("\\*")) {
            int letter = LETTERS.indexOf(factor.charAt(0));
            if (letter < 0) {
                number *= Long.parseLong(factor);
            } else {
                int exponent = factor.length() == 1 ? 1 : Integer.parseInt(factor.substring(2));
                power += exponent << 4 * letter;
            }
        }
        g.term(p, number, 1, power);
    }

    /** The text of a polynomial, its terms in the order in which it tells them. */
    static String show(ImageGcds g, int p) {
        StringBuilder text = new StringBuilder();
        for (int k = 0; k < g.terms(p); k++) {
            int number = g.at(p, k, 0);
            int signed = number > PRIME / 2 ? number - PRIME : number;
            text.append(signed < 0 ? "-" : k == 0 ? "" : "+");
            text.append(withNumber(Math.abs(signed), powerText(g.at(p, k, 1))));
        }
        return text.length() == 0 ? "0" : text.toString();
    }

    /** All that can be asked of an object without changing it. */
    static String state(ImageGcds g) {
        StringBuilder text = new StringBuilder();
        for (int p = 0; p < g.count(); p++) {
            text.append(p).append(": ").append(show(g, p)).append("; ");
        }
        return text.append(g.count()).toString();
    }

    private static String withNumber(int number, String power) {
        if (power.isEmpty()) {
            return String.valueOf(number);
        }
        return number == 1 ? power : number + "*" + power;
    }

    private static String powerText(int power) {
        StringBuilder text = new StringBuilder();
        for (int letter = 0; letter < 3; letter++) {
            int exponent = power >> 4 * letter & 15;
            if (exponent > 0) {
                text.append(text.length() == 0 ? "" : "*").append(LETTERS.charAt(letter));
                text.append(exponent == 1 ? "" : "^" + exponent);
            }
        }
        return text.toString();
    }
}
