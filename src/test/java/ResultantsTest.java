import java.util.Random;

/** Resultants with many rows: their images are determinants of numbers, worked out by elimination. */
public final class ResultantsTest {
    private static final Checks CHECKS = new Checks();
    private static final int PRIME = Model.PRIME;

    public static void main(String[] args) {
        int runs = args.length > 0 ? Integer.parseInt(args[0]) : 300;
        for (long seed = 0; seed < runs; seed++) {
            run("seed " + seed, new Random(seed));
        }
        CHECKS.end("ResultantsTest");
    }

    private static void run(String where, Random random) {
        int letters = 1 + random.nextInt(3);
        int letter = random.nextInt(letters);
        ImageGcds g = new ImageGcds(letters);
        int a;
        int b;
        do {
            a = g.poly();
            b = g.poly();
            fill(g, a, letters, letter, random);
            fill(g, b, letters, letter, random);
        } while (tooHigh(g, a, b, letters, letter) && g.count() < 58);
        if (tooHigh(g, a, b, letters, letter)) {
            int first = a;
            int second = b;
            CHECKS.refused(where, IllegalArgumentException.class, () -> g.resultant(first, second, letter));
            return;
        }
        int answer = g.resultant(a, b, letter);
        CHECKS.same(where + " letter itself", true, g.degree(answer, letter) <= 0);
        for (int point = 0; point < 12; point++) {
            int[] values = new int[3];
            for (int i = 0; i < 3; i++) {
                values[i] = point < 4 ? random.nextInt(4) : random.nextInt(PRIME);
            }
            CHECKS.same(where + " image", determinant(g, a, b, letter, values), value(g, answer, values));
        }
    }

    private static void fill(ImageGcds g, int p, int letters, int letter, Random random) {
        int top = random.nextInt(16);
        int other = random.nextInt(3);
        for (int i = 0; i < 12; i++) {
            int power = 0;
            for (int l = 0; l < letters; l++) {
                power += random.nextInt((l == letter ? top : other) + 1) << 4 * l;
            }
            g.term(p, random.nextInt(9) - 4, 1, power);
        }
    }

    private static boolean tooHigh(ImageGcds g, int a, int b, int letters, int letter) {
        for (int other = 0; other < letters; other++) {
            int m = Math.max(0, g.degree(a, letter));
            int k = Math.max(0, g.degree(b, letter));
            int all = m * Math.max(0, g.degree(b, other)) + k * Math.max(0, g.degree(a, other));
            if (other != letter && all > 15) {
                return true;
            }
        }
        return false;
    }

    private static long raise(long base, int exponent) {
        long answer = 1;
        for (int i = 0; i < exponent; i++) {
            answer = answer * base % PRIME;
        }
        return answer;
    }

    private static long value(ImageGcds g, int p, int[] values) {
        long answer = 0;
        for (int k = 0; k < g.terms(p); k++) {
            answer += termValue(g, p, k, values, -1);
        }
        return answer % PRIME;
    }

    private static long termValue(ImageGcds g, int p, int k, int[] values, int without) {
        long answer = g.at(p, k, 0);
        for (int l = 0; l < 3; l++) {
            int exponent = g.at(p, k, 1) >> 4 * l & 15;
            answer = l == without ? answer : answer * raise(values[l], exponent) % PRIME;
        }
        return answer;
    }

    private static long[] coefficients(ImageGcds g, int p, int letter, int[] values) {
        long[] answer = new long[16];
        for (int k = 0; k < g.terms(p); k++) {
            int exponent = g.at(p, k, 1) >> 4 * letter & 15;
            answer[exponent] = (answer[exponent] + termValue(g, p, k, values, letter)) % PRIME;
        }
        return answer;
    }

    private static long determinant(ImageGcds g, int a, int b, int letter, int[] values) {
        int m = g.degree(a, letter);
        int k = g.degree(b, letter);
        if (m < 0 || k < 0) {
            return 0;
        }
        long[] first = coefficients(g, a, letter, values);
        long[] second = coefficients(g, b, letter, values);
        long[][] rows = new long[m + k][m + k];
        for (int r = 0; r < k; r++) {
            for (int i = 0; i <= m; i++) {
                rows[r][r + i] = first[m - i];
            }
        }
        for (int r = 0; r < m; r++) {
            for (int i = 0; i <= k; i++) {
                rows[k + r][r + i] = second[k - i];
            }
        }
        return eliminate(rows);
    }

    private static long eliminate(long[][] rows) {
        long answer = 1;
        for (int i = 0; i < rows.length; i++) {
            int pivot = i;
            while (pivot < rows.length && rows[pivot][i] == 0) {
                pivot++;
            }
            if (pivot == rows.length) {
                return 0;
            }
            long[] row = rows[pivot];
            rows[pivot] = rows[i];
            rows[i] = row;
            answer = answer * (pivot == i ? row[i] : PRIME - row[i]) % PRIME;
            long inverse = raise(row[i], PRIME - 2);
            for (int r = i + 1; r < rows.length; r++) {
                long factor = rows[r][i] * inverse % PRIME;
                for (int c = i; c < rows.length; c++) {
                    rows[r][c] = (rows[r][c] + (PRIME - factor) * row[c]) % PRIME;
                }
            }
        }
        return answer;
    }
}
