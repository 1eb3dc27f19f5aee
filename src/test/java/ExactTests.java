import java.math.BigInteger;
import java.util.Arrays;
import java.util.Random;

/**
 * "The answers are fractions in lowest terms, whatever the numbers between need": at every size systems whose
 * numbers between are as long as ints can make them. What is due comes from Cramer's rule, and each solution
 * that is told is put into its rows.
 */
public final class ExactTests {
    private static final int MIN = Integer.MIN_VALUE;
    private static final int MAX = Integer.MAX_VALUE;
    private static final int MOST_ROWS = 10;
    /** The largest determinants of 1 .. 10 rows whose numbers are all 1 or -1. */
    private static final long[] LARGEST = {1, 2, 4, 16, 48, 160, 576, 4096, 14336, 73728};
    private static final int MOST_STARTS = 100000;

    /** Its determinant is 2^47, so that 2^27 times it has one of 2^290: no ints give many twos more. */
    private static final int[][] MOST_TWOS = {
        {13, 13, -15, -11, 13, 13, -15, -11, -15},
        {13, -11, -15, 13, -11, -15, 13, -11, -15},
        {13, -15, 13, -11, -15, -11, -15, -15, 13},
        {13, -15, -11, -11, 13, 13, -15, 13, -15},
        {-15, -15, -15, -11, -15, 13, 13, -15, 13},
        {-15, -11, 13, 13, -15, 13, -11, -15, -11},
        {-15, 13, -11, -11, -11, -15, -11, 13, -15},
        {-11, -11, -11, 13, 9, -11, -11, -11, 9},
        {-11, -11, 13, -15, 13, -15, 13, -15, -11}};

    private static int wrong = 0;
    private static int toldSolutions = 0;

    public static void main(String[] args) {
        for (int n = 1; n <= MOST_ROWS; n++) {
            largestMinors(n);
        }
        mostTwos();
        rowsNearlyAlike();
        System.out.println(wrong == 0 ? "all answers are as due" : wrong + " answers are not as due");
        if (wrong != 0) {
            System.exit(1);
        }
    }

    private static void due(String call, Object got, Object want) {
        if (!got.equals(want)) {
            wrong++;
            System.out.println(call + " answered " + got + ", due is " + want);
        }
    }

    // Systems

    private static void largestMinors(int n) {
        int[][] signs = largestSigns(n);
        int[][] levels = {{MIN, MAX}, {MAX, MIN}, {-MAX, MAX}, {MIN + 2, MAX - 1}, {MIN, 1 << 30}, {-1 << 30, 1 << 30}};
        for (int[] pair : levels) {
            checkSides("largest minors of " + n + " " + Arrays.toString(pair), ofTwo(signs, pair[0], pair[1]));
        }
        for (int bits = 0; bits <= 31; bits++) {
            int most = (int) ((1L << bits) - 1);
            checkBothSigns("largest minors of " + n + " with " + bits + " bits", ofTwo(signs, -most - 1, most));
            checkBothSigns("largest minors of " + n + " with " + bits + " bits, turned", ofTwo(signs, most, -most - 1));
        }
    }

    private static int[][] ofTwo(int[][] signs, int forMinus, int forPlus) {
        int n = signs.length;
        int[][] numbers = new int[n][n];
        for (int row = 0; row < n; row++) {
            for (int k = 0; k < n; k++) {
                numbers[row][k] = signs[row][k] < 0 ? forMinus : forPlus;
            }
        }
        return numbers;
    }

    /** Turns single signs as long as that helps, from many starts. */
    private static int[][] largestSigns(int n) {
        Random random = new Random(n);
        int[][] signs = new int[n][n];
        for (int start = 0; start < MOST_STARTS; start++) {
            for (int i = 0; i < n * n; i++) {
                signs[i / n][i % n] = random.nextBoolean() ? 1 : -1;
            }
            if (climb(signs) == LARGEST[n - 1]) {
                return signs;
            }
        }
        due("the largest determinant of " + n + " rows of signs", "none", "one");
        return signs;
    }

    private static long climb(int[][] signs) {
        int n = signs.length;
        long best = Math.abs(smallDeterminant(signs));
        for (int sinceBetter = 0, i = 0; sinceBetter < n * n; i = (i + 1) % (n * n)) {
            signs[i / n][i % n] *= -1;
            long turned = Math.abs(smallDeterminant(signs));
            if (turned > best) {
                best = turned;
                sinceBetter = 0;
            } else {
                signs[i / n][i % n] *= -1;
                sinceBetter++;
            }
        }
        return best;
    }

    private static void mostTwos() {
        int[][] nine = new int[9][9];
        for (int row = 0; row < 9; row++) {
            for (int k = 0; k < 9; k++) {
                nine[row][k] = MOST_TWOS[row][k] << 27;
            }
        }
        due("twos of the determinant", determinant(nine).getLowestSetBit(), 290);
        checkSides("most twos, nine rows", nine);
        for (int corner : new int[] {1, -1, MAX, MIN}) {
            for (int edge : new int[] {0, 1, MIN, MAX}) {
                checkSides("most twos, corner " + corner + ", edge " + edge, bordered(nine, edge, corner));
            }
        }
    }

    private static int[][] bordered(int[][] nine, int edge, int corner) {
        int[][] ten = new int[10][10];
        for (int i = 0; i < 9; i++) {
            System.arraycopy(nine[i], 0, ten[i], 0, 9);
            ten[i][9] = edge;
            ten[9][i] = i % 2 == 0 ? 0 : edge;
        }
        ten[9][9] = corner;
        return ten;
    }

    /** Long products of which next to nothing is left: a lost bit would show at once. */
    private static void rowsNearlyAlike() {
        for (int n = 2; n <= MOST_ROWS; n++) {
            for (int high : new int[] {MAX, MAX - 1, MIN, MIN + 1, 1 << 30}) {
                int[][] numbers = new int[n][n];
                for (int row = 0; row < n; row++) {
                    Arrays.fill(numbers[row], high);
                    numbers[row][row] += high > 0 ? -1 : 1;
                }
                checkSides(n + " rows nearly all " + high, numbers);
                numbers[n - 1] = numbers[0].clone();
                checkSides(n + " rows, two of them alike, nearly all " + high, numbers);
            }
        }
    }

    // Right sides

    private static void checkSides(String name, int[][] numbers) {
        int n = numbers.length;
        boolean justOne = determinant(numbers).signum() != 0;
        for (int k = 0; k < n; k++) {
            int toldBefore = toldSolutions;
            check(name + ", side is column " + k, numbers, column(numbers, k, 1));
            check(name + ", side is minus column " + k, numbers, column(numbers, k, -1));
            // x k = 1 and x k = -1: were they not told, the test would be worth little.
            due(name + ": solutions told", toldSolutions - toldBefore, justOne ? 2 : 0);
            check(name + ", side is half of columns " + k + " and 0", numbers, halfSum(numbers, k));
        }
        for (int side : new int[] {0, 1, -1, MIN, MAX}) {
            int[] sides = new int[n];
            Arrays.fill(sides, side);
            check(name + ", sides " + side, numbers, sides);
            check(name + ", side " + side + " once", numbers, once(side, n));
        }
    }

    /** The rows as they stand and with two of them swapped, which turns the sign of the determinant. */
    private static void checkBothSigns(String name, int[][] numbers) {
        int n = numbers.length;
        int[][] swapped = numbers.clone();
        swapped[0] = numbers[n - 1];
        swapped[n - 1] = numbers[0];
        for (int[][] either : new int[][][] {numbers, swapped}) {
            int first = either[0][0];
            int[] sides = new int[n];
            Arrays.fill(sides, first);
            check(name + ", side is column 0", either, column(either, 0, 1));
            check(name + ", sides " + first, either, sides);
            check(name + ", side " + first + " once", either, once(first, n));
            check(name + ", side 1 once", either, once(1, n));
        }
    }

    private static int[] once(int side, int n) {
        return Arrays.copyOf(new int[] {side}, n);
    }

    /** A number of -2^31 has no negative: then its column stays as it is, and x k is 1 once more. */
    private static int[] column(int[][] numbers, int k, int sign) {
        int[] column = new int[numbers.length];
        boolean hasLeast = false;
        for (int row = 0; row < column.length; row++) {
            hasLeast |= numbers[row][k] == MIN;
        }
        for (int row = 0; row < column.length; row++) {
            column[row] = hasLeast ? numbers[row][k] : sign * numbers[row][k];
        }
        return column;
    }

    private static int[] halfSum(int[][] numbers, int k) {
        int[] sums = new int[numbers.length];
        for (int row = 0; row < sums.length; row++) {
            sums[row] = (int) (((long) numbers[row][k] + numbers[row][0]) / 2);
        }
        return sums;
    }

    // What is due

    private static void check(String name, int[][] numbers, int[] sides) {
        int n = numbers.length;
        RowReduction x = new RowReduction();
        x.begin(n);
        for (int row = 0; row < n; row++) {
            for (int k = 0; k < n; k++) {
                x.put(row, k, numbers[row][k]);
            }
            x.put(row, n, sides[row]);
        }
        BigInteger[][] solution = solution(numbers, sides);
        int want = answer(solution);
        due(name + ": solve()", x.solve(), want);
        for (int k = 0; k < n; k++) {
            due(name + ": above(" + k + ")", x.above(k), want == 0 ? solution[k][0].longValueExact() : 0L);
            due(name + ": under(" + k + ")", x.under(k), want == 0 ? solution[k][1].longValueExact() : 0L);
        }
        if (want == 0) {
            toldSolutions++;
            dueInEachRow(name, x, numbers, sides);
        }
    }

    /** "in each row the sum of the row's k-th number times x k is the right side" */
    private static void dueInEachRow(String name, RowReduction x, int[][] numbers, int[] sides) {
        int n = numbers.length;
        for (int row = 0; row < n; row++) {
            BigInteger above = BigInteger.ZERO;
            BigInteger under = BigInteger.ONE;
            for (int k = 0; k < n; k++) {
                BigInteger part = BigInteger.valueOf(numbers[row][k]).multiply(BigInteger.valueOf(x.above(k)));
                above = above.multiply(BigInteger.valueOf(x.under(k))).add(part.multiply(under));
                under = under.multiply(BigInteger.valueOf(x.under(k)));
            }
            due(name + ": the sum of row " + row, above, under.multiply(BigInteger.valueOf(sides[row])));
        }
    }

    private static int answer(BigInteger[][] solution) {
        if (solution == null) {
            return -1;
        }
        for (int k = 0; k < solution.length; k++) {
            if (solution[k][0].bitLength() > 63 || solution[k][1].bitLength() > 63) {
                return 1 + k;
            }
        }
        return 0;
    }

    /** By Cramer's rule; null if there is not just one. */
    private static BigInteger[][] solution(int[][] numbers, int[] sides) {
        BigInteger divisor = determinant(numbers);
        if (divisor.signum() == 0) {
            return null;
        }
        BigInteger[][] solution = new BigInteger[numbers.length][];
        for (int k = 0; k < numbers.length; k++) {
            int[][] replaced = new int[numbers.length][];
            for (int row = 0; row < numbers.length; row++) {
                replaced[row] = numbers[row].clone();
                replaced[row][k] = sides[row];
            }
            solution[k] = lowestTerms(determinant(replaced), divisor);
        }
        return solution;
    }

    private static BigInteger[] lowestTerms(BigInteger above, BigInteger under) {
        BigInteger common = above.gcd(under);
        if (under.signum() < 0) {
            common = common.negate();
        }
        return new BigInteger[] {above.divide(common), under.divide(common)};
    }

    private static BigInteger determinant(int[][] numbers) {
        int n = numbers.length;
        BigInteger[][] m = new BigInteger[n][n];
        for (int row = 0; row < n; row++) {
            for (int k = 0; k < n; k++) {
                m[row][k] = BigInteger.valueOf(numbers[row][k]);
            }
        }
        BigInteger before = BigInteger.ONE;
        boolean negated = false;
        for (int step = 0; step < n; step++) {
            int pivot = step;
            while (pivot < n && m[pivot][step].signum() == 0) {
                pivot++;
            }
            if (pivot == n) {
                return BigInteger.ZERO;
            }
            BigInteger[] held = m[pivot];
            m[pivot] = m[step];
            m[step] = held;
            negated ^= pivot != step;
            for (int row = step + 1; row < n; row++) {
                for (int k = step + 1; k < n; k++) {
                    m[row][k] = m[row][k].multiply(held[step]).subtract(m[row][step].multiply(held[k])).divide(before);
                }
            }
            before = held[step];
        }
        return negated ? before.negate() : before;
    }

    /** Of signs alone, by Gauss in doubles: it is far from where they are no longer exact enough. */
    private static long smallDeterminant(int[][] signs) {
        int n = signs.length;
        double[][] m = new double[n][n];
        for (int row = 0; row < n; row++) {
            for (int k = 0; k < n; k++) {
                m[row][k] = signs[row][k];
            }
        }
        double product = 1;
        for (int step = 0; step < n; step++) {
            int pivot = step;
            for (int row = step + 1; row < n; row++) {
                pivot = Math.abs(m[row][step]) > Math.abs(m[pivot][step]) ? row : pivot;
            }
            if (Math.abs(m[pivot][step]) < 1e-9) {
                return 0;
            }
            double[] held = m[pivot];
            m[pivot] = m[step];
            m[step] = held;
            product *= pivot == step ? held[step] : -held[step];
            for (int row = step + 1; row < n; row++) {
                double factor = m[row][step] / held[step];
                for (int k = step + 1; k < n; k++) {
                    m[row][k] -= factor * held[k];
                }
            }
        }
        return Math.round(product);
    }
}
