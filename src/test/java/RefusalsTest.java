/** "Of several the one that stands first behind "throws" is thrown; nothing changes." */
public final class RefusalsTest {
    private static final Class<IndexOutOfBoundsException> NO_POLY = IndexOutOfBoundsException.class;
    private static final Class<IllegalStateException> FULL = IllegalStateException.class;
    private static final Class<IllegalArgumentException> BAD = IllegalArgumentException.class;
    private static final Class<ArithmeticException> ZERO = ArithmeticException.class;
    private static final Checks CHECKS = new Checks();
    /** An object with room and one without; both hold the high polynomial, 0 and one more. */
    private static final ImageGcds ROOM = object(3);
    private static final ImageGcds FILLED = object(60);
    private static final int HIGH = 0;
    private static final int NULL = 1;
    private static final int LINE = 2;

    public static void main(String[] args) {
        CHECKS.sentence("Of several the one that stands first behind \"throws\" is thrown; nothing changes.");
        String room = Checks.state(ROOM);
        String filled = Checks.state(FILLED);
        terms();
        sumsQuotientsDivisors();
        products();
        resultants();
        slopes();
        contents();
        parts();
        images();
        looks();
        alone();
        CHECKS.same("what has room, after all refused calls", room, Checks.state(ROOM));
        CHECKS.same("what is full, after all refused calls", filled, Checks.state(FILLED));
        CHECKS.same("the next one in what has room", 3, ROOM.poly());
        CHECKS.same("its terms", 0, ROOM.terms(3));
        CHECKS.end("RefusalsTest");
    }

    private static ImageGcds object(int count) {
        ImageGcds g = new ImageGcds(3);
        Checks.make(g, "x^15*y^15*z^15+3");
        Checks.make(g, "");
        Checks.make(g, "x-y+z");
        while (g.count() < count) {
            g.poly();
        }
        return g;
    }

    /** The exception is the due one, and the object is as before. */
    private static void refused(String what, Class<? extends RuntimeException> want, ImageGcds g, Checks.Call call) {
        String before = Checks.state(g);
        CHECKS.refused(what, want, call);
        CHECKS.same("what is there after " + what, before, Checks.state(g));
    }

    private static void terms() {
        refused("term: no polynomial, no power, below 0", NO_POLY, ROOM, () -> ROOM.term(3, 1, 0, 4096));
        refused("term: no polynomial, no power", NO_POLY, ROOM, () -> ROOM.term(-1, 1, 1, -1));
        refused("term: no polynomial, below 0", NO_POLY, ROOM, () -> ROOM.term(3, 1, 32003, 0));
        refused("term: no power, below 0", BAD, ROOM, () -> ROOM.term(LINE, 1, 0, 4096));
        refused("term: no power -1, below 0", BAD, ROOM, () -> ROOM.term(LINE, 0, -32003, -1));
        refused("term: full, below 0", ZERO, FILLED, () -> FILLED.term(LINE, 1, 0, 1));
        refused("term: full, no polynomial, below 0", NO_POLY, FILLED, () -> FILLED.term(60, 1, 0, 1));
    }

    private static void sumsQuotientsDivisors() {
        refused("add: no first, full", NO_POLY, FILLED, () -> FILLED.add(60, LINE));
        refused("add: no second, full", NO_POLY, FILLED, () -> FILLED.add(LINE, 60));
        refused("over: no first, full", NO_POLY, FILLED, () -> FILLED.over(-1, LINE));
        refused("over: no second, full", NO_POLY, FILLED, () -> FILLED.over(LINE, -1));
        refused("gcd: no first, full", NO_POLY, FILLED, () -> FILLED.gcd(60, NULL));
        refused("gcd: no second, full", NO_POLY, FILLED, () -> FILLED.gcd(NULL, 60));
    }

    private static void products() {
        refused("times: no first, full", NO_POLY, FILLED, () -> FILLED.times(60, HIGH));
        refused("times: no second, full", NO_POLY, FILLED, () -> FILLED.times(HIGH, 60));
        refused("times: full, above 15", FULL, FILLED, () -> FILLED.times(HIGH, HIGH));
        refused("times: no second, the first one high", NO_POLY, ROOM, () -> ROOM.times(HIGH, 3));
    }

    private static void resultants() {
        refused("resultant: no first, full, no letter", NO_POLY, FILLED, () -> FILLED.resultant(60, HIGH, 3));
        refused("resultant: no second, full, no letter", NO_POLY, FILLED, () -> FILLED.resultant(HIGH, 60, -1));
        refused("resultant: no second, no letter", NO_POLY, ROOM, () -> ROOM.resultant(HIGH, 3, 3));
        refused("resultant: no first, full", NO_POLY, FILLED, () -> FILLED.resultant(-1, HIGH, 0));
        refused("resultant: full, no letter", FULL, FILLED, () -> FILLED.resultant(LINE, LINE, 3));
        refused("resultant: full, above 15", FULL, FILLED, () -> FILLED.resultant(HIGH, HIGH, 0));
    }

    private static void slopes() {
        refused("slope: no polynomial, full, no letter", NO_POLY, FILLED, () -> FILLED.slope(60, 3));
        refused("slope: no polynomial, full", NO_POLY, FILLED, () -> FILLED.slope(60, 0));
        refused("slope: no polynomial, no letter", NO_POLY, ROOM, () -> ROOM.slope(3, 3));
        refused("slope: full, no letter", FULL, FILLED, () -> FILLED.slope(LINE, -1));
    }

    private static void contents() {
        refused("content: no polynomial, full, no letter", NO_POLY, FILLED, () -> FILLED.content(60, 3));
        refused("content: no polynomial, full", NO_POLY, FILLED, () -> FILLED.content(60, 0));
        refused("content: no polynomial, no letter", NO_POLY, ROOM, () -> ROOM.content(3, 3));
        refused("content: full, no letter", FULL, FILLED, () -> FILLED.content(LINE, -1));
    }

    private static void parts() {
        refused("part: no polynomial, full, no k", NO_POLY, FILLED, () -> FILLED.part(60, 0));
        refused("part: no polynomial, full", NO_POLY, FILLED, () -> FILLED.part(60, 1));
        refused("part: no polynomial, no k", NO_POLY, ROOM, () -> ROOM.part(3, 46));
        refused("part: full, no k", FULL, FILLED, () -> FILLED.part(LINE, 46));
        refused("part: full, of 0", FULL, FILLED, () -> FILLED.part(NULL, 1));
    }

    private static void images() {
        refused("image: no polynomial, full, no letter", NO_POLY, FILLED, () -> FILLED.image(60, 3, 1));
        refused("image: no polynomial, full", NO_POLY, FILLED, () -> FILLED.image(60, 0, 1));
        refused("image: no polynomial, no letter", NO_POLY, ROOM, () -> ROOM.image(3, 3, 1));
        refused("image: full, no letter", FULL, FILLED, () -> FILLED.image(LINE, -1, 1));
    }

    private static void looks() {
        refused("at: no polynomial, no term", NO_POLY, ROOM, () -> ROOM.at(3, -1, 0));
        refused("at: no polynomial, no what", NO_POLY, ROOM, () -> ROOM.at(3, 0, 2));
        refused("degree: no polynomial, no letter", NO_POLY, ROOM, () -> ROOM.degree(3, 3));
        refused("equal: full, no second", NO_POLY, FILLED, () -> FILLED.equal(LINE, 60));
    }

    /** Calls with one reason to be refused: nothing changes either. */
    private static void alone() {
        refused("poly", FULL, FILLED, FILLED::poly);
        for (var call : Calls.making().entrySet()) {
            refused(call.getKey() + ", full", FULL, FILLED, () -> call.getValue().answer(FILLED, LINE));
        }
        for (var call : Calls.naming().entrySet()) {
            refused(call.getKey() + ", no polynomial", NO_POLY, ROOM, () -> call.getValue().answer(ROOM, 3));
        }
        for (var call : Calls.lettered().entrySet()) {
            refused(call.getKey() + ", no letter", BAD, ROOM, () -> call.getValue().answer(ROOM, LINE, 3));
        }
        refused("term, no power", BAD, ROOM, () -> ROOM.term(LINE, 5, 1, 4096));
        refused("term, below 0", ZERO, ROOM, () -> ROOM.term(LINE, 5, 0, 1));
        refused("times, above 15", BAD, ROOM, () -> ROOM.times(HIGH, LINE));
        refused("resultant, above 15", BAD, ROOM, () -> ROOM.resultant(HIGH, HIGH, 1));
        refused("part of 0", BAD, ROOM, () -> ROOM.part(NULL, 1));
        refused("part, no k", BAD, ROOM, () -> ROOM.part(LINE, 0));
        refused("at, no term", BAD, ROOM, () -> ROOM.at(LINE, 3, 0));
        refused("at, no what", BAD, ROOM, () -> ROOM.at(LINE, 0, 2));
    }
}
