import java.util.Arrays;

/**
 * Solves systems of linear equations in whole numbers exactly: the answers are fractions in lowest
 * terms, whatever the numbers between need.
 */
public final class RowReduction {
    private static final int MAX_SIZE = 10;
    private static final int ROW_LENGTH = MAX_SIZE + 1;

    private final int[][] system = new int[MAX_SIZE][ROW_LENGTH];
    private final long[] numerators = new long[MAX_SIZE];
    private final long[] denominators = new long[MAX_SIZE];
    private final Elimination elimination = new Elimination();
    private final LowestTerms lowestTerms = new LowestTerms();
    private int size = 1;
    private boolean told = false;

    public RowReduction() {
    }

    public boolean begin(int n) {
        if (n < 1 || n > MAX_SIZE) {
            return false;
        }
        for (int row = 0; row < MAX_SIZE; row++) {
            Arrays.fill(system[row], 0);
        }
        size = n;
        told = false;
        return true;
    }

    public boolean put(int row, int k, int v) {
        if (!hasNumber(row, k)) {
            return false;
        }
        system[row][k] = v;
        return true;
    }

    public int get(int row, int k) {
        return hasNumber(row, k) ? system[row][k] : 0;
    }

    public int solve() {
        told = false;
        if (!elimination.reduce(system, size)) {
            return -1;
        }
        for (int k = 0; k < size; k++) {
            if (!lowestTerms.find(elimination.dividend(k), elimination.divisor(), elimination.width())) {
                return 1 + k;
            }
            numerators[k] = lowestTerms.numerator;
            denominators[k] = lowestTerms.denominator;
        }
        told = true;
        return 0;
    }

    public long above(int k) {
        return isTold(k) ? numerators[k] : 0;
    }

    public long under(int k) {
        return isTold(k) ? denominators[k] : 0;
    }

    /** The right side counts as number n of its row. */
    private boolean hasNumber(int row, int k) {
        return row >= 0 && row < size && k >= 0 && k <= size;
    }

    private boolean isTold(int k) {
        return told && k >= 0 && k < size;
    }

    /**
     * Whole numbers as limbs of 32 bits, the lowest first, in two's complement. Every array has WIDTH
     * limbs; a function that takes a width reckons with the lowest limbs alone, that is, modulo a power
     * of two, so that no sign needs a case of its own.
     */
    private static final class Limbs {
        static final int BITS = 32;
        static final long MASK = 0xFFFFFFFFL;
        /** 11 limbs for a minor of 10 rows, and 10 more for the twos of a divisor (see Elimination). */
        static final int WIDTH = 21;

        static void setTo(long[] number, int value) {
            Arrays.fill(number, value < 0 ? MASK : 0L);
            number[0] = value & MASK;
        }

        static boolean isZero(long[] number) {
            for (int i = 0; i < WIDTH; i++) {
                if (number[i] != 0) {
                    return false;
                }
            }
            return true;
        }

        static boolean isNegative(long[] number) {
            return isNegativeAt(number, WIDTH);
        }

        private static boolean isNegativeAt(long[] number, int width) {
            return number[width - 1] >>> (BITS - 1) != 0;
        }

        static void copy(long[] from, long[] to) {
            System.arraycopy(from, 0, to, 0, WIDTH);
        }

        /** Copies a number that stands right in its lowest limbs alone. */
        static void copyWidened(long[] from, int width, long[] to) {
            System.arraycopy(from, 0, to, 0, width);
            Arrays.fill(to, width, WIDTH, isNegativeAt(from, width) ? MASK : 0L);
        }

        static void copyNegated(long[] from, long[] to) {
            Arrays.fill(to, 0L);
            subtractScaled(to, 0, 1L, from, WIDTH);
        }

        static void copyMagnitude(long[] from, long[] to) {
            if (isNegative(from)) {
                copyNegated(from, to);
            } else {
                copy(from, to);
            }
        }

        /** Compares two numbers that are not negative. */
        static int compare(long[] left, long[] right, int width) {
            for (int i = width - 1; i >= 0; i--) {
                if (left[i] != right[i]) {
                    return left[i] < right[i] ? -1 : 1;
                }
            }
            return 0;
        }

        /** Takes factor times number, moved up by start limbs, from target. */
        static void subtractScaled(long[] target, int start, long factor, long[] number, int width) {
            long borrow = 0;
            for (int i = start; i < width; i++) {
                // At most (2^32 - 1) * 2^32, which a long holds without a sign.
                long part = factor * number[i - start] + borrow;
                long rest = target[i] - (part & MASK);
                target[i] = rest & MASK;
                borrow = (part >>> BITS) + (rest >>> 63);
            }
        }

        static void subtractProduct(long[] target, long[] left, long[] right, int width) {
            for (int i = 0; i < width; i++) {
                if (left[i] != 0) {
                    subtractScaled(target, i, left[i], right, width);
                }
            }
        }

        static int trailingZeros(long[] number) {
            for (int i = 0; i < WIDTH; i++) {
                if (number[i] != 0) {
                    return i * BITS + Long.bitCount(~number[i] & (number[i] - 1));
                }
            }
            return WIDTH * BITS;
        }

        /** Zeros come in from above: of a negative number only the limbs below them are right. */
        static void shiftRight(long[] number, int bits, int width) {
            if (bits <= 0) {
                return;
            }
            int whole = bits / BITS;
            int part = bits % BITS;
            for (int i = 0; i < width; i++) {
                long low = limbAt(number, i + whole, width);
                long high = limbAt(number, i + whole + 1, width);
                number[i] = (high << BITS | low) >>> part & MASK;
            }
        }

        private static long limbAt(long[] number, int i, int width) {
            return i < width ? number[i] : 0L;
        }

        /** The inverse of an odd limb modulo 2^32: it starts right in 3 bits, and each turn doubles them. */
        static long inverse(long odd) {
            long inverse = odd;
            for (int turn = 0; turn < 4; turn++) {
                inverse *= 2 - odd * inverse;
            }
            return inverse & MASK;
        }

        /**
         * Divides by an odd number that goes into this one evenly. Such a quotient can be found from its
         * lowest limb up, modulo a power of two, whatever the signs; inverse belongs to the divisor's
         * lowest limb.
         */
        static void divideEvenly(long[] number, long[] oddDivisor, long inverse, int width) {
            for (int i = 0; i < width; i++) {
                long digit = number[i] * inverse & MASK;
                subtractScaled(number, i, digit, oddDivisor, width);
                // The subtraction has cleared this limb and none after it comes back to it.
                number[i] = digit;
            }
        }
    }

    /**
     * Elimination without fractions (Bareiss), above the diagonal too: every number between is a minor of
     * the system, so that the division by the pivot before comes out even and the numbers stay small.
     */
    private static final class Elimination {
        /** A minor has at most 10! products, which is less than 2^22 of them; one bit more for the sign. */
        private static final int SPARE_BITS = 23;

        private final long[][] cells = new long[MAX_SIZE * ROW_LENGTH][Limbs.WIDTH];
        private final long[] negatedPivot = new long[Limbs.WIDTH];
        private final long[] oddDivisor = new long[Limbs.WIDTH];
        private final long[] work = new long[Limbs.WIDTH];
        private int size = 1;
        private int entryBits = 0;
        private int divisorTwos = 0;
        private long divisorInverse = 1;
        private int minorWidth = 1;
        private int workWidth = 1;

        /** False if the system has not just one solution. */
        boolean reduce(int[][] system, int systemSize) {
            size = systemSize;
            load(system);
            for (int step = 0; step < size; step++) {
                int pivotRow = findPivotRow(step);
                if (pivotRow < 0) {
                    return false;
                }
                swapRows(step, pivotRow);
                prepareStep(step);
                clearColumn(step);
            }
            return true;
        }

        /** x k is dividend(k) / divisor(). */
        long[] dividend(int k) {
            return cell(k, size);
        }

        long[] divisor() {
            return cell(size - 1, size - 1);
        }

        /** So many limbs hold the divisor and every dividend. */
        int width() {
            return limbsOfMinor(size);
        }

        private long[] cell(int row, int column) {
            return cells[row * ROW_LENGTH + column];
        }

        private void load(int[][] system) {
            int usedBits = 0;
            for (int row = 0; row < size; row++) {
                for (int column = 0; column <= size; column++) {
                    int value = system[row][column];
                    Limbs.setTo(cell(row, column), value);
                    usedBits |= value < 0 ? ~value : value;
                }
            }
            entryBits = 0;
            while (entryBits < 31 && usedBits >>> entryBits != 0) {
                entryBits++;
            }
        }

        /** Each entry is at most 2^entryBits, so a minor's products are at most 2^(rows * entryBits). */
        private int limbsOfMinor(int rows) {
            return (rows * entryBits + SPARE_BITS) / Limbs.BITS + 1;
        }

        private int findPivotRow(int step) {
            for (int row = step; row < size; row++) {
                if (!Limbs.isZero(cell(row, step))) {
                    return row;
                }
            }
            return -1;
        }

        private void swapRows(int one, int other) {
            if (one == other) {
                return;
            }
            for (int column = 0; column <= size; column++) {
                long[] held = cell(one, column);
                cells[one * ROW_LENGTH + column] = cell(other, column);
                cells[other * ROW_LENGTH + column] = held;
            }
        }

        private void prepareStep(int step) {
            Limbs.copyNegated(cell(step, step), negatedPivot);
            if (step == 0) {
                Limbs.setTo(oddDivisor, 1);
            } else {
                Limbs.copy(cell(step - 1, step - 1), oddDivisor);
            }
            divisorTwos = Limbs.trailingZeros(oddDivisor);
            Limbs.shiftRight(oddDivisor, divisorTwos, Limbs.WIDTH);
            divisorInverse = Limbs.inverse(oddDivisor[0]);
            // The rows below the pivot become minors of step + 2 rows; those above it stay smaller.
            minorWidth = limbsOfMinor(Math.min(step + 2, size));
            // The shift by the divisor's twos eats limbs from above.
            workWidth = Math.min(minorWidth + divisorTwos / Limbs.BITS + 1, Limbs.WIDTH);
        }

        /** The column itself is not written: no later step reads it. */
        private void clearColumn(int step) {
            for (int row = 0; row < size; row++) {
                for (int column = step + 1; row != step && column <= size; column++) {
                    replace(cell(row, column), cell(row, step), cell(step, column));
                }
            }
        }

        /** The cell becomes (pivot * cell - inPivotColumn * inPivotRow) / the pivot before. */
        private void replace(long[] cell, long[] inPivotColumn, long[] inPivotRow) {
            Arrays.fill(work, 0L);
            Limbs.subtractProduct(work, negatedPivot, cell, workWidth);
            Limbs.subtractProduct(work, inPivotColumn, inPivotRow, workWidth);
            Limbs.shiftRight(work, divisorTwos, workWidth);
            Limbs.divideEvenly(work, oddDivisor, divisorInverse, minorWidth);
            Limbs.copyWidened(work, minorWidth, cell);
        }
    }

    /** Brings a fraction of long numbers of limbs to lowest terms. */
    private static final class LowestTerms {
        /** Each step takes a bit at least from one of the two numbers. */
        private static final int MAX_STEPS = 2 * Limbs.BITS * Limbs.WIDTH;

        private final long[] top = new long[Limbs.WIDTH];
        private final long[] bottom = new long[Limbs.WIDTH];
        private final long[] oddTop = new long[Limbs.WIDTH];
        private final long[] oddBottom = new long[Limbs.WIDTH];
        private long numerator = 0;
        private long denominator = 1;

        /** False if the numerator or the denominator is no long. The divisor is not 0. */
        boolean find(long[] dividend, long[] divisor, int width) {
            if (Limbs.isZero(dividend)) {
                numerator = 0;
                denominator = 1;
                return true;
            }
            boolean negative = Limbs.isNegative(dividend) != Limbs.isNegative(divisor);
            Limbs.copyMagnitude(dividend, top);
            Limbs.copyMagnitude(divisor, bottom);
            removeCommonTwos(width);
            removeCommonOddFactor(width);
            if (!fitsLong(top, negative) || !fitsLong(bottom, false)) {
                return false;
            }
            numerator = negative ? -lowBits(top) : lowBits(top);
            denominator = lowBits(bottom);
            return true;
        }

        private void removeCommonTwos(int width) {
            int twos = Math.min(Limbs.trailingZeros(top), Limbs.trailingZeros(bottom));
            Limbs.shiftRight(top, twos, width);
            Limbs.shiftRight(bottom, twos, width);
        }

        private void removeCommonOddFactor(int width) {
            Limbs.copy(top, oddTop);
            Limbs.copy(bottom, oddBottom);
            removeTwos(oddTop, width);
            removeTwos(oddBottom, width);
            long[] factor = commonOddFactor(width);
            long inverse = Limbs.inverse(factor[0]);
            Limbs.divideEvenly(top, factor, inverse, width);
            Limbs.divideEvenly(bottom, factor, inverse, width);
        }

        private static void removeTwos(long[] number, int width) {
            Limbs.shiftRight(number, Limbs.trailingZeros(number), width);
        }

        /** The greatest common divisor of oddTop and oddBottom, in one of the two. */
        private long[] commonOddFactor(int width) {
            long[] larger = oddTop;
            long[] smaller = oddBottom;
            int used = width;
            for (int step = 0; step < MAX_STEPS; step++) {
                while (used > 1 && larger[used - 1] == 0 && smaller[used - 1] == 0) {
                    used--;
                }
                int order = Limbs.compare(larger, smaller, used);
                if (order == 0) {
                    break;
                }
                if (order < 0) {
                    long[] held = larger;
                    larger = smaller;
                    smaller = held;
                }
                Limbs.subtractScaled(larger, 0, 1L, smaller, used);
                removeTwos(larger, used);
            }
            return larger;
        }

        /** The numbers are magnitudes: 2^63 is a long only behind a minus sign. */
        private static boolean fitsLong(long[] magnitude, boolean negative) {
            for (int i = 2; i < Limbs.WIDTH; i++) {
                if (magnitude[i] != 0) {
                    return false;
                }
            }
            long value = lowBits(magnitude);
            return value >= 0 || negative && value == Long.MIN_VALUE;
        }

        private static long lowBits(long[] number) {
            return number[1] << Limbs.BITS | number[0];
        }
    }
}
