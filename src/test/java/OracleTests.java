import java.math.BigInteger;
import java.util.Random;

/**
 * Systems of many kinds, each answer compared with a plain elimination in fractions of BigIntegers, and runs of
 * 512 calls of every kind in any order, each answer compared with the document's words done as plainly as can be.
 */
public final class OracleTests {
    private static final BigInteger LEAST = BigInteger.valueOf(Long.MIN_VALUE);
    private static final BigInteger MOST = BigInteger.valueOf(Long.MAX_VALUE);
    private static final int KINDS = 9;
    private static final int ROUNDS = 90;
    /** A system takes at most 152 calls, and after 512 an object may answer what it likes. */
    private static final int MOST_USES = 3;
    private static final int RUNS = 400;
    private static final int CALLS_OF_A_RUN = 512;

    private static int wrong = 0;
    private static final int[] answers = new int[12];

    record Fraction(BigInteger above, BigInteger under) {
        static Fraction of(BigInteger above, BigInteger under) {
            BigInteger common = above.gcd(under);
            if (under.signum() < 0) {
                common = common.negate();
            }
            return new Fraction(above.divide(common), under.divide(common));
        }

        static Fraction of(long value) {
            return new Fraction(BigInteger.valueOf(value), BigInteger.ONE);
        }

        Fraction minusProduct(Fraction a, Fraction b) {
            BigInteger productUnder = a.under.multiply(b.under);
            return of(above.multiply(productUnder).subtract(a.above.multiply(b.above).multiply(under)),
                    under.multiply(productUnder));
        }

        Fraction over(Fraction other) {
            return of(above.multiply(other.under), under.multiply(other.above));
        }

        boolean isLong() {
            return isLong(above) && isLong(under);
        }

        private static boolean isLong(BigInteger number) {
            return number.compareTo(LEAST) >= 0 && number.compareTo(MOST) <= 0;
        }
    }

    /** The document's words, promise by promise. */
    private static final class Model {
        private int[][] rows = new int[1][2];
        private Fraction[] told = null;

        boolean begin(int n) {
            if (n < 1 || n > 10) {
                return false;
            }
            rows = new int[n][n + 1];
            told = null;
            return true;
        }

        boolean put(int row, int k, int v) {
            if (!has(row, k)) {
                return false;
            }
            rows[row][k] = v;
            return true;
        }

        int get(int row, int k) {
            return has(row, k) ? rows[row][k] : 0;
        }

        int solve() {
            Fraction[] solution = solution(rows);
            int answer = answer(solution);
            told = answer == 0 ? solution : null;
            return answer;
        }

        long above(int k) {
            return tells(k) ? told[k].above().longValueExact() : 0;
        }

        long under(int k) {
            return tells(k) ? told[k].under().longValueExact() : 0;
        }

        int size() {
            return rows.length;
        }

        private boolean has(int row, int k) {
            return row >= 0 && row < rows.length && k >= 0 && k <= rows.length;
        }

        private boolean tells(int k) {
            return told != null && k >= 0 && k < told.length;
        }
    }

    public static void main(String[] args) {
        systems();
        dueEveryAnswerMet();
        runs();
        System.out.println(wrong == 0 ? "all answers are as due" : wrong + " answers are not as due");
        if (wrong != 0) {
            System.exit(1);
        }
    }

    private static void systems() {
        Random random = new Random(20261116L);
        RowReduction used = new RowReduction();
        int uses = 0;
        for (int round = 0; round < ROUNDS; round++) {
            for (int kind = 0; kind < KINDS; kind++) {
                for (int n = 1; n <= 10; n++) {
                    if (uses == MOST_USES) {
                        used = new RowReduction();
                        uses = 0;
                    }
                    check(kind, system(kind, n, random), used);
                    uses++;
                }
            }
        }
    }

    private static void runs() {
        Random random = new Random(8L);
        for (int run = 0; run < RUNS; run++) {
            RowReduction x = new RowReduction();
            Model model = new Model();
            int bits = 1 + random.nextInt(32);
            for (int call = 0; call < CALLS_OF_A_RUN; call++) {
                String text = call(x, model, bits, random);
                if (text != null) {
                    wrong++;
                    System.out.println("run " + run + ", call " + (call + 1) + ": " + text);
                }
            }
        }
    }

    /** Makes one call on both; null if they answer alike. */
    private static String call(RowReduction x, Model model, int bits, Random random) {
        int row = index(model.size(), random);
        int k = index(model.size(), random);
        switch (random.nextInt(40)) {
            case 0: {
                int n = random.nextInt(3) == 0 ? index(10, random) : 1 + random.nextInt(4);
                return unlike("begin(" + n + ")", x.begin(n), model.begin(n));
            }
            case 1, 2, 3, 4:
                return unlike("solve()", x.solve(), model.solve());
            case 5, 6, 7, 8:
                return unlike("above(" + k + ")", x.above(k), model.above(k));
            case 9, 10, 11, 12:
                return unlike("under(" + k + ")", x.under(k), model.under(k));
            case 13, 14, 15, 16:
                return unlike("get(" + row + ", " + k + ")", x.get(row, k), model.get(row, k));
            default: {
                int v = random.nextInt(20) == 0 ? Integer.MIN_VALUE : random.nextInt() >> (32 - bits);
                return unlike("put(" + row + ", " + k + ", " + v + ")", x.put(row, k, v), model.put(row, k, v));
            }
        }
    }

    private static String unlike(String call, Object got, Object want) {
        return got.equals(want) ? null : call + " answered " + got + ", due is " + want;
    }

    /** Mostly 0 .. n, now and then just outside or far off. */
    private static int index(int n, Random random) {
        return switch (random.nextInt(30)) {
            case 0 -> -1;
            case 1 -> n + 1;
            case 2 -> random.nextInt();
            default -> random.nextInt(n + 1);
        };
    }

    /** The kinds of systems are worth something only if they bring out each answer that solve() has. */
    private static void dueEveryAnswerMet() {
        for (int answer = -1; answer <= 10; answer++) {
            if (answers[answer + 1] == 0) {
                wrong++;
                System.out.println("no system had the answer " + answer);
            }
        }
    }

    private static void check(int kind, int[][] rows, RowReduction x) {
        int n = rows.length;
        x.begin(n);
        for (int row = 0; row < n; row++) {
            for (int k = 0; k <= n; k++) {
                x.put(row, k, rows[row][k]);
            }
        }
        Fraction[] solution = solution(rows);
        int want = answer(solution);
        answers[want + 1]++;
        due(kind, rows, "solve()", x.solve(), want);
        for (int k = 0; k < n; k++) {
            due(kind, rows, "above(" + k + ")", x.above(k), want == 0 ? solution[k].above().longValueExact() : 0);
            due(kind, rows, "under(" + k + ")", x.under(k), want == 0 ? solution[k].under().longValueExact() : 0);
            due(kind, rows, "get(" + k + ", " + n + ")", x.get(k, n), rows[k][n]);
            due(kind, rows, "get(" + k + ", " + k + ")", x.get(k, k), rows[k][k]);
        }
    }

    private static void due(int kind, int[][] rows, String call, long got, long want) {
        if (got != want) {
            wrong++;
            System.out.println("kind " + kind + ", " + java.util.Arrays.deepToString(rows) + ": " + call
                    + " answered " + got + ", due is " + want);
        }
    }

    private static int answer(Fraction[] solution) {
        if (solution == null) {
            return -1;
        }
        for (int k = 0; k < solution.length; k++) {
            if (!solution[k].isLong()) {
                return 1 + k;
            }
        }
        return 0;
    }

    /** null if there is not just one. */
    private static Fraction[] solution(int[][] rows) {
        int n = rows.length;
        Fraction[][] m = new Fraction[n][n + 1];
        for (int row = 0; row < n; row++) {
            for (int k = 0; k <= n; k++) {
                m[row][k] = Fraction.of(rows[row][k]);
            }
        }
        for (int step = 0; step < n; step++) {
            int pivot = step;
            while (pivot < n && m[pivot][step].above().signum() == 0) {
                pivot++;
            }
            if (pivot == n) {
                return null;
            }
            Fraction[] held = m[pivot];
            m[pivot] = m[step];
            m[step] = held;
            for (int row = step + 1; row < n; row++) {
                Fraction factor = m[row][step].over(held[step]);
                for (int k = step; k <= n; k++) {
                    m[row][k] = m[row][k].minusProduct(factor, held[k]);
                }
            }
        }
        Fraction[] x = new Fraction[n];
        for (int row = n - 1; row >= 0; row--) {
            Fraction side = m[row][n];
            for (int k = row + 1; k < n; k++) {
                side = side.minusProduct(m[row][k], x[k]);
            }
            x[row] = side.over(m[row][row]);
        }
        return x;
    }

    private static int[][] system(int kind, int n, Random random) {
        switch (kind) {
            case 0: return filled(n, random, 4);
            case 1: return filled(n, random, 10);
            case 2: return filled(n, random, 32);
            case 3: return powersOfTwo(n, random);
            case 4: return extremes(n, random);
            case 5: return sparse(n, random);
            case 6: return ofFractions(n, random);
            case 7: return dependent(n, random);
            default: return chained(n, random);
        }
    }

    private static int[][] filled(int n, Random random, int bits) {
        int[][] rows = new int[n][n + 1];
        for (int[] row : rows) {
            for (int k = 0; k <= n; k++) {
                row[k] = random.nextInt() >> (32 - bits);
            }
        }
        return rows;
    }

    /** Pivots with as many trailing zeros as there can be. */
    private static int[][] powersOfTwo(int n, Random random) {
        int[][] rows = new int[n][n + 1];
        int least = random.nextInt(31);
        for (int[] row : rows) {
            for (int k = 0; k <= n; k++) {
                int power = 1 << (least + random.nextInt(32 - least));
                row[k] = random.nextInt(4) == 0 ? 0 : random.nextBoolean() ? power : -power;
            }
        }
        return rows;
    }

    private static int[][] extremes(int n, Random random) {
        int[] values = {Integer.MIN_VALUE, Integer.MAX_VALUE, Integer.MIN_VALUE + 1, Integer.MAX_VALUE, 0};
        int kinds = 2 + random.nextInt(4);
        int[][] rows = new int[n][n + 1];
        for (int[] row : rows) {
            for (int k = 0; k <= n; k++) {
                row[k] = values[random.nextInt(kinds)];
            }
        }
        return rows;
    }

    private static int[][] sparse(int n, Random random) {
        int[][] rows = new int[n][n + 1];
        for (int[] row : rows) {
            for (int k = 0; k <= n; k++) {
                row[k] = random.nextInt(3) == 0 ? random.nextInt() >> random.nextInt(32) : 0;
            }
        }
        return rows;
    }

    /** Large numbers between, small fractions at the end. */
    private static int[][] ofFractions(int n, Random random) {
        int[] above = new int[n];
        int[] under = new int[n];
        for (int k = 0; k < n; k++) {
            above[k] = random.nextInt(41) - 20;
            under[k] = 1 + random.nextInt(1 << random.nextInt(12));
        }
        int[][] rows = new int[n][n + 1];
        for (int[] row : rows) {
            for (int k = 0; k < n; k++) {
                int factor = (random.nextInt(20000000) - 10000000) / under[k];
                row[k] = factor * under[k];
                row[n] += factor * above[k];
            }
        }
        return rows;
    }

    /** The last row is a sum of others in its numbers, now and then in its right side too. */
    private static int[][] dependent(int n, Random random) {
        int[][] rows = filled(n, random, 28);
        rows[n - 1] = new int[n + 1];
        for (int row = 0; row < n - 1; row++) {
            int sign = random.nextInt(3) - 1;
            for (int k = 0; k <= n; k++) {
                rows[n - 1][k] += sign * rows[row][k];
            }
        }
        if (random.nextBoolean()) {
            rows[n - 1][random.nextInt(n + 1)] ^= 1;
        }
        return rows;
    }

    /** Each unknown a multiple or a part of the one before, so that some k is the first that is no long. */
    private static int[][] chained(int n, Random random) {
        int[][] rows = new int[n][n + 1];
        int bits = 1 + random.nextInt(31);
        for (int k = 0; k < n; k++) {
            int factor = 1 + random.nextInt() >>> (32 - bits);
            boolean multiple = random.nextInt(4) != 0;
            rows[k][k] = multiple ? 1 : factor;
            if (k > 0) {
                rows[k][k - 1] = multiple ? -factor : -1;
            }
            rows[k][n] = k == 0 ? random.nextInt() >> (32 - bits) : random.nextInt(3) - 1;
        }
        for (int i = n - 1; i > 0; i--) {
            int other = random.nextInt(i + 1);
            int[] held = rows[i];
            rows[i] = rows[other];
            rows[other] = held;
        }
        return rows;
    }
}
