/**
 * Each sentence of the document that names a boundary has a test here: the least and the greatest that is
 * taken, the first below and the first above that is refused, and that a refused call changes nothing.
 */
public final class BoundaryTests {
    private static final int MIN = Integer.MIN_VALUE;
    private static final int MAX = Integer.MAX_VALUE;
    private static final int MOST_ROWS = 10;
    /** Among them numbers that are a size, a row or a number once their upper bits are lost. */
    private static final int[] FAR_OUTSIDE = {
        -2, -10, -11, 12, 22, 100, 256, 257, 65536, 65537, 1 << 24, -256, -255, -65536, -65535,
        MAX - 1, MAX, MIN, MIN + 1, MIN + 10};

    private static int wrong = 0;

    /** An object with a count of its calls: what it answers after the 512th is free, so no test asks. */
    private static final class Subject {
        private static final int MOST_CALLS = 512;

        private final RowReduction object = new RowReduction();
        private int calls = 0;

        private RowReduction called() {
            calls++;
            if (calls > MOST_CALLS) {
                throw new IllegalStateException("a test makes more than 512 calls on one object");
            }
            return object;
        }

        boolean begin(int n) {
            return called().begin(n);
        }

        boolean put(int row, int k, int v) {
            return called().put(row, k, v);
        }

        int get(int row, int k) {
            return called().get(row, k);
        }

        int solve() {
            return called().solve();
        }

        long above(int k) {
            return called().above(k);
        }

        long under(int k) {
            return called().under(k);
        }

        int callsLeft() {
            return MOST_CALLS - calls;
        }
    }

    public static void main(String[] args) {
        termsSizes();
        termsNumbers();
        termsAtFirstZero();
        termsNoneMoreOrJustOne();
        termsDeterminantsThatWrap();
        termsDenominatorAboveZero();
        termsLowestTerms();
        termsZero();
        newObjectHasSizeOne();
        beginTakesOneToTen();
        beginRefusesTheRest();
        putTakesEveryNumber();
        putRefusesTheRest();
        getAnswersEveryNumber();
        getOfNoneIsZero();
        solveTellsTillTheNextSolve();
        solveTellsTillTheNextBegin();
        solveOfNotJustOneTellsNothing();
        solveOfNoLongTellsNothing();
        solveNumeratorBounds();
        solveDenominatorBounds();
        solveDenominatorsJustOutside();
        solveAnswersTheLeast();
        solveKeepsTheSystem();
        aboveAndUnderOfNone();
        aboveAndUnderOutside();
        lastCallsOfAll();
        System.out.println(wrong == 0 ? "all answers are as due" : wrong + " answers are not as due");
        if (wrong != 0) {
            System.exit(1);
        }
    }

    // What the tests are made of

    private static void due(String call, Object got, Object want) {
        if (!got.equals(want)) {
            wrong++;
            System.out.println(call + " answered " + got + ", due is " + want);
        }
    }

    private static int[] row(int... numbers) {
        return numbers;
    }

    private static void fill(Subject x, int[][] rows) {
        due("begin(" + rows.length + ")", x.begin(rows.length), true);
        for (int row = 0; row < rows.length; row++) {
            for (int k = 0; k < rows[row].length; k++) {
                due("put(" + row + ", " + k + ", " + rows[row][k] + ")", x.put(row, k, rows[row][k]), true);
            }
        }
    }

    private static Subject of(int[]... rows) {
        Subject x = new Subject();
        fill(x, rows);
        return x;
    }

    /** No number is 0 and none like another in its row; x k is (2 k + 1) / 2, as the diagonal outweighs. */
    private static int[][] halves(int n) {
        int[][] rows = new int[n][n + 1];
        for (int row = 0; row < n; row++) {
            for (int k = 0; k < n; k++) {
                int half = 1 + row * 11 + k + (row == k ? 10000 : 0);
                rows[row][k] = 2 * half;
                rows[row][n] += half * (2 * k + 1);
            }
        }
        return rows;
    }

    private static Subject halvesTold(int n) {
        Subject x = of(halves(n));
        due("halves of " + n + ": solve()", x.solve(), 0);
        return x;
    }

    private static void dueFraction(String name, Subject x, int k, long above, long under) {
        due(name + ": above(" + k + ")", x.above(k), above);
        due(name + ": under(" + k + ")", x.under(k), under);
    }

    private static void dueHalves(String name, Subject x, int n) {
        for (int k = 0; k < n; k++) {
            dueFraction(name, x, k, 2 * k + 1, 2);
        }
    }

    private static void dueNothingTold(String name, Subject x) {
        for (int k = -1; k <= MOST_ROWS; k++) {
            dueFraction(name, x, k, 0, 0);
        }
    }

    /** Just these rows, and no row or number beside them. */
    private static void dueSystem(String name, Subject x, int[][] rows) {
        int n = rows.length;
        for (int row = 0; row < n; row++) {
            for (int k = 0; k <= n; k++) {
                due(name + ": get(" + row + ", " + k + ")", x.get(row, k), rows[row][k]);
            }
        }
        dueSize(name, x, n);
    }

    private static void dueSize(String name, Subject x, int n) {
        due(name + ": put in the last row", x.put(n - 1, n, x.get(n - 1, n)), true);
        due(name + ": put in a row too many", x.put(n, 0, 1), false);
        due(name + ": put of a number too many", x.put(0, n + 1, 1), false);
    }

    private static int[][] zeros(int n) {
        return new int[n][n + 1];
    }

    /** Everything that an object of halves(n) whose solution is told can show. */
    private static void dueUnchanged(String name, Subject x, int n) {
        dueHalves(name, x, n);
        dueFraction(name, x, n, 0, 0);
        dueSystem(name, x, halves(n));
        dueHalves(name, x, n);
        due(name + ": solve()", x.solve(), 0);
        dueHalves(name + ", solved again", x, n);
    }

    /** The same for an object whose solution was never asked for. */
    private static void dueUnchangedUntold(String name, Subject x, int n) {
        dueNothingTold(name, x);
        dueSystem(name, x, halves(n));
        due(name + ": solve()", x.solve(), 0);
        dueHalves(name + ", solved", x, n);
    }

    /** x 0 = (2^62 * last + side) / divisor */
    private static int[][] product(int last, int side, int divisor) {
        return new int[][] {row(divisor, MIN, 0, side), row(0, -1, MIN, 0), row(0, 0, -1, last)};
    }

    /** x 0 = above / (a * b * c) */
    private static int[][] quotient(int a, int b, int c, int above) {
        return new int[][] {row(a, -1, 0, 0), row(0, b, -1, 0), row(0, 0, c, above)};
    }

    /** x 0 = above / (2^62 * last + link); x 1 is 2^31 times, x 2 is 2^62 times as much. */
    private static int[][] ring(int last, int link, int above) {
        return new int[][] {row(MIN, 1, 0, 0), row(0, MIN, 1, 0), row(link, 0, last, above)};
    }

    private static void dueFirst(String name, int[][] rows, long above, long under) {
        Subject x = of(rows);
        due(name + ": solve()", x.solve(), 0);
        dueFraction(name, x, 0, above, under);
    }

    private static void dueNoLong(String name, int[][] rows) {
        Subject x = of(rows);
        due(name + ": solve()", x.solve(), 1);
        dueNothingTold(name, x);
    }

    // Terms: "A SYSTEM of size n (1 .. 10) has n rows; each has n numbers and a right side"

    private static void termsSizes() {
        for (int n = 1; n <= MOST_ROWS; n++) {
            String name = "size " + n;
            Subject x = of(halves(n));
            due(name + ": solve()", x.solve(), 0);
            dueHalves(name, x, n);
            dueSystem(name, x, halves(n));
        }
        due("no size 0", new Subject().begin(0), false);
        due("no size 11", new Subject().begin(11), false);
    }

    // "all of them ints from -2147483648 to 2147483647"

    private static void termsNumbers() {
        int[] edges = {MIN, MIN + 1, -1, 0, 1, MAX - 1, MAX};
        for (int edge : edges) {
            for (int n = 1; n <= MOST_ROWS; n += 3) {
                int[][] rows = new int[n][n + 1];
                for (int[] row : rows) {
                    java.util.Arrays.fill(row, edge);
                }
                dueSystem("all " + edge, of(rows), rows);
            }
        }
        dueFirst("MIN x = MIN", new int[][] {row(MIN, MIN)}, 1, 1);
        dueFirst("MIN x = MAX", new int[][] {row(MIN, MAX)}, -2147483647L, 2147483648L);
        dueFirst("MAX x = MIN", new int[][] {row(MAX, MIN)}, -2147483648L, 2147483647L);
        dueFirst("MAX x = MAX", new int[][] {row(MAX, MAX)}, 1, 1);
        dueFirst("MIN x = 1", new int[][] {row(MIN, 1)}, -1, 2147483648L);
        dueFirst("MIN x = -1", new int[][] {row(MIN, -1)}, 1, 2147483648L);
        dueFirst("-1 x = MIN", new int[][] {row(-1, MIN)}, 2147483648L, 1);
        dueFirst("1 x = MIN", new int[][] {row(1, MIN)}, -2147483648L, 1);
        dueLargestMinors(8);
        dueLargestMinors(10);
    }

    /** Blocks of eight and two rows of signs whose products never cancel: few minors are as large. */
    private static void dueLargestMinors(int n) {
        int[][] rows = new int[n][n + 1];
        for (int row = 0; row < n; row++) {
            int blockEnd = row < 8 ? 8 : n;
            for (int k = row < 8 ? 0 : 8; k < blockEnd; k++) {
                rows[row][k] = Integer.bitCount(row & k & 7) % 2 == 0 ? MAX : -MAX;
            }
            rows[row][n] = row % 8 == 0 ? 1 : 0;
        }
        Subject x = of(rows);
        due("largest minors of " + n + ": solve()", x.solve(), 0);
        for (int k = 0; k < n; k++) {
            dueFraction("largest minors of " + n, x, k, 1, k < 8 ? 8L * MAX : 2L * MAX);
        }
    }

    // "at first 0"

    private static void termsAtFirstZero() {
        Subject x = new Subject();
        due("new: get(0, 0)", x.get(0, 0), 0);
        due("new: get(0, 1)", x.get(0, 1), 0);
        for (int n = 1; n <= MOST_ROWS; n++) {
            Subject y = new Subject();
            y.begin(n);
            dueSystem("at first, " + n, y, zeros(n));
            due("at first, " + n + ": solve()", y.solve(), -1);
        }
    }

    // "There is none, or more than one, or just one"

    private static void termsNoneMoreOrJustOne() {
        due("0 x = 0, more than one", of(row(0, 0)).solve(), -1);
        due("0 x = 1, none", of(row(0, 1)).solve(), -1);
        due("0 x = MIN, none", of(row(0, MIN)).solve(), -1);
        due("1 x = 0, just one", of(row(1, 0)).solve(), 0);
        due("-1 x = 0, just one", of(row(-1, 0)).solve(), 0);
        for (int n = 2; n <= MOST_ROWS; n++) {
            due(n + " rows, just one", of(nearlyDependent(n, n, 1)).solve(), 0);
            due(n + " rows, none", of(nearlyDependent(n, n - 1, 1)).solve(), -1);
            due(n + " rows, more than one", of(nearlyDependent(n, n - 1, 0)).solve(), -1);
        }
        // The products are 2^62 - 2^32 and the like: only the last bit tells these two apart.
        due("determinant -1", of(row(MAX, MAX - 1, 1), row(MAX - 1, MAX - 2, 1)).solve(), 0);
        due("determinant 0", of(row(MAX, MAX - 1, 1), row(MAX, MAX - 1, 2)).solve(), -1);
        due("determinant 0 of MINs", of(row(MIN, MIN, MAX), row(MIN, MIN, MIN)).solve(), -1);
    }

    /** Number k of a row is the lesser of row + 1 and k + 1, but for the last: with n there, the determinant is 1. */
    private static int[][] nearlyDependent(int n, int last, int lastSide) {
        int[][] rows = new int[n][n + 1];
        for (int row = 0; row < n; row++) {
            for (int k = 0; k < n; k++) {
                rows[row][k] = Math.min(row, k) + 1;
            }
        }
        rows[n - 1][n - 1] = last;
        rows[n - 1][n] = lastSide;
        return rows;
    }

    /** Determinants that are 0 in an int or a long are not 0. */
    private static void termsDeterminantsThatWrap() {
        dueFirst("determinant 2^32", new int[][] {row(65536, 0, 3), row(0, 65536, 1)}, 3, 65536);
        dueFirst("determinant -2^32", new int[][] {row(MIN, 0, 3), row(0, 2, 1)}, -3, 2147483648L);
        dueFirst("determinant 2^64", new int[][] {row(4, 0, 0, 3), row(0, MIN, 0, 1), row(0, 0, MIN, 1)}, 3, 4);
        for (int n = 1; n <= MOST_ROWS; n++) {
            int[][] rows = new int[n][n + 1];
            for (int k = 0; k < n; k++) {
                rows[k][k] = MIN;
                rows[k][n] = k - 5;
            }
            Subject x = of(rows);
            due("determinant of " + n + " MINs: solve()", x.solve(), 0);
            dueFraction("determinant of " + n + " MINs", x, 0, 5, 2147483648L);
        }
    }

    // "a fraction with a denominator above 0"

    private static void termsDenominatorAboveZero() {
        dueFirst("2 x = 3", new int[][] {row(2, 3)}, 3, 2);
        dueFirst("-2 x = 3", new int[][] {row(-2, 3)}, -3, 2);
        dueFirst("2 x = -3", new int[][] {row(2, -3)}, -3, 2);
        dueFirst("-2 x = -3", new int[][] {row(-2, -3)}, 3, 2);
        dueFirst("rows swapped", new int[][] {row(0, 5, 1), row(7, 0, 2)}, 2, 7);
        dueFirst("rows swapped, negative", new int[][] {row(0, -5, 1), row(7, 0, -2)}, -2, 7);
    }

    // "in lowest terms"

    private static void termsLowestTerms() {
        dueFirst("7 x = 7", new int[][] {row(7, 7)}, 1, 1);
        dueFirst("7 x = -49", new int[][] {row(7, -49)}, -7, 1);
        dueFirst("-49 x = 7", new int[][] {row(-49, 7)}, -1, 7);
        dueFirst("MIN x = 2^30", new int[][] {row(MIN, 1 << 30)}, -1, 2);
        dueFirst("2^30 x = MIN", new int[][] {row(1 << 30, MIN)}, -2, 1);
        dueFirst("nothing in common", new int[][] {row(MAX, MAX - 1)}, 2147483646L, 2147483647L);
        dueFirst("2147483646 x = 1431655764", new int[][] {row(MAX - 1, 1431655764)}, 2, 3);
        dueFirst("2^64 over 4", product(4, 0, 4), 1L << 62, 1);
        dueFirst("3 * 2^62 over 9", product(3, 0, 9), 1L << 62, 3);
        dueFirst("-2^31 over -2^93", quotient(MIN, MIN, MIN, MIN), 1, 1L << 62);
    }

    // "(0 is 0 / 1)"

    private static void termsZero() {
        int[] divisors = {1, -1, 2, MIN, MAX};
        for (int divisor : divisors) {
            dueFirst(divisor + " x = 0", new int[][] {row(divisor, 0)}, 0, 1);
            dueFirst("0 over " + divisor + "^3", quotient(divisor, divisor, divisor, 0), 0, 1);
        }
        for (int n = 1; n <= MOST_ROWS; n++) {
            int[][] rows = halves(n);
            for (int[] row : rows) {
                row[n] = 0;
            }
            Subject x = of(rows);
            due("right sides of 0: solve()", x.solve(), 0);
            for (int k = 0; k < n; k++) {
                dueFraction("right sides of 0", x, k, 0, 1);
            }
            dueFraction("right sides of 0", x, n, 0, 0);
        }
    }

    // Promise 1: "A system of size 1."

    private static void newObjectHasSizeOne() {
        dueNothingTold("new", new Subject());
        dueSystem("new", new Subject(), zeros(1));
        due("new: solve()", new Subject().solve(), -1);
        Subject x = new Subject();
        due("new: put(0, 0, 4)", x.put(0, 0, 4), true);
        due("new: put(0, 1, -6)", x.put(0, 1, -6), true);
        due("new: put(1, 0, 4)", x.put(1, 0, 4), false);
        due("new: put(0, 2, 4)", x.put(0, 2, 4), false);
        due("new: put(-1, 0, 4)", x.put(-1, 0, 4), false);
        due("new: put(0, -1, 4)", x.put(0, -1, 4), false);
        dueSystem("new, 4 x = -6", x, new int[][] {row(4, -6)});
        due("new: solve() of 4 x = -6", x.solve(), 0);
        dueFraction("new", x, 0, -3, 2);
        dueFraction("new", x, -1, 0, 0);
        dueFraction("new", x, 1, 0, 0);
        dueSystem("a second new object", new Subject(), zeros(1));
        dueNothingTold("a second new object", new Subject());
    }

    // Promise 2: "A system of so many rows, all 0, with no solution told: true; false if n is not 1 .. 10."

    private static void beginTakesOneToTen() {
        for (int before = 1; before <= MOST_ROWS; before++) {
            for (int n = 1; n <= MOST_ROWS; n++) {
                String name = "begin(" + n + ") after " + before;
                Subject x = halvesTold(before);
                due(name, x.begin(n), true);
                dueNothingTold(name, x);
                dueSystem(name, x, zeros(n));
                due(name + ": solve()", x.solve(), -1);
            }
        }
        for (int between = 1; between < MOST_ROWS; between++) {
            Subject x = of(halves(MOST_ROWS));
            due("begin(" + between + ")", x.begin(between), true);
            due("begin(10) after it", x.begin(MOST_ROWS), true);
            dueSystem("10 again after " + between, x, zeros(MOST_ROWS));
        }
    }

    private static void beginRefusesTheRest() {
        dueBeginRefused(0);
        dueBeginRefused(-1);
        dueBeginRefused(11);
        for (int n : FAR_OUTSIDE) {
            dueBeginRefused(n);
        }
    }

    private static void dueBeginRefused(int n) {
        for (int size = 1; size <= MOST_ROWS; size++) {
            String name = "begin(" + n + ") at size " + size;
            Subject told = halvesTold(size);
            due(name, told.begin(n), false);
            dueUnchanged(name, told, size);
            Subject untold = of(halves(size));
            due(name, untold.begin(n), false);
            dueUnchangedUntold(name, untold, size);
        }
        Subject x = new Subject();
        due("new: begin(" + n + ")", x.begin(n), false);
        dueSystem("new: begin(" + n + ")", x, zeros(1));
    }

    // Promise 3: "Number k of a row (its right side for k = n) becomes v: true"

    private static void putTakesEveryNumber() {
        for (int n = 1; n <= MOST_ROWS; n++) {
            for (int row = 0; row < n; row++) {
                for (int k = 0; k <= n; k++) {
                    int v = (row + k) % 2 == 0 ? MIN : MAX;
                    String name = "put(" + row + ", " + k + ", " + v + ") at size " + n;
                    Subject x = of(halves(n));
                    due(name, x.put(row, k, v), true);
                    int[][] rows = halves(n);
                    rows[row][k] = v;
                    dueSystem(name, x, rows);
                }
            }
        }
        Subject x = of(row(3, 6));
        due("put of the right side", x.put(0, 1, 7), true);
        due("put of the right side: solve()", x.solve(), 0);
        dueFraction("put of the right side", x, 0, 7, 3);
    }

    // "false if there is no such row or number"

    private static void putRefusesTheRest() {
        for (int n = 1; n <= MOST_ROWS; n++) {
            int[][] outside = {
                row(-1, 0), row(-1, n), row(n, 0), row(n, n - 1), row(n, n), row(0, -1), row(n - 1, -1),
                row(0, n + 1), row(n - 1, n + 1), row(-1, -1), row(n, -1), row(-1, n + 1), row(n, n + 1)};
            for (int[] place : outside) {
                duePutRefused(n, place[0], place[1]);
            }
            // Places that would be a number if the rows stood one behind the other, or wrapped around.
            duePutRefused(n, -1, 11);
            duePutRefused(n, 1, -1);
            duePutRefused(n, 1, -11);
            duePutRefused(n, 0, 11);
            duePutRefused(n, 390451572, 4);
            duePutRefused(n, 1 << 31, 0);
        }
        for (int far : FAR_OUTSIDE) {
            duePutRefused(1, far, 0);
            duePutRefused(1, 0, far);
            duePutRefused(MOST_ROWS, far, 0);
            duePutRefused(MOST_ROWS, 0, far);
            duePutRefused(MOST_ROWS, far, far);
        }
    }

    private static void duePutRefused(int n, int row, int k) {
        String name = "put(" + row + ", " + k + ", -9) at size " + n;
        Subject told = halvesTold(n);
        due(name, told.put(row, k, -9), false);
        dueUnchanged(name, told, n);
        Subject untold = of(halves(n));
        due(name, untold.put(row, k, -9), false);
        dueUnchangedUntold(name, untold, n);
    }

    // Promise 4: "Number k of a row"

    private static void getAnswersEveryNumber() {
        int[] edges = {MIN, MIN + 1, -65536, -1, 1, 65536, MAX};
        for (int n = 1; n <= MOST_ROWS; n++) {
            int[][] rows = new int[n][n + 1];
            for (int row = 0; row < n; row++) {
                for (int k = 0; k <= n; k++) {
                    rows[row][k] = edges[(3 * row + k) % edges.length];
                }
            }
            Subject x = of(rows);
            dueSystem("get at size " + n, x, rows);
            due("get(0, 0) of " + n, x.get(0, 0), rows[0][0]);
            due("get(0, n) of " + n, x.get(0, n), rows[0][n]);
            due("get(n - 1, 0) of " + n, x.get(n - 1, 0), rows[n - 1][0]);
            due("get(n - 1, n) of " + n, x.get(n - 1, n), rows[n - 1][n]);
        }
    }

    // "0 if there is none"

    private static void getOfNoneIsZero() {
        for (int n = 1; n <= MOST_ROWS; n++) {
            Subject x = halvesTold(n);
            for (int i = -1; i <= n + 1; i++) {
                due("get(-1, " + i + ") of " + n, x.get(-1, i), 0);
                due("get(n, " + i + ") of " + n, x.get(n, i), 0);
                due("get(" + i + ", -1) of " + n, x.get(i, -1), 0);
                due("get(" + i + ", n + 1) of " + n, x.get(i, n + 1), 0);
            }
            due("get(1, -11) of " + n, x.get(1, -11), 0);
            due("get(0, 11) of " + n, x.get(0, 11), 0);
            due("get(390451572, 4) of " + n, x.get(390451572, 4), 0);
            for (int far : FAR_OUTSIDE) {
                due("get(" + far + ", 0) of " + n, x.get(far, 0), 0);
                due("get(0, " + far + ") of " + n, x.get(0, far), 0);
                due("get(" + far + ", " + far + ") of " + n, x.get(far, far), 0);
            }
            dueSystem("after gets of none at size " + n, x, halves(n));
            dueHalves("after gets of none at size " + n, x, n);
        }
    }

    // Promise 5: "0, and the solution is told till the next solve() or begin()"

    private static void solveTellsTillTheNextSolve() {
        Subject x = of(row(2, 0, 6), row(0, 4, 6));
        dueNothingTold("before solve()", x);
        due("solve()", x.solve(), 0);
        due("put after solve()", x.put(0, 0, 0), true);
        due("put after solve()", x.put(0, 2, 0), true);
        due("put that is refused", x.put(2, 0, 1), false);
        due("get after solve()", x.get(0, 0), 0);
        due("begin that is refused", x.begin(0), false);
        dueFraction("told till the next solve()", x, 0, 3, 1);
        dueFraction("told till the next solve()", x, 1, 3, 2);
        due("the next solve()", x.solve(), -1);
        dueNothingTold("the next solve()", x);
        x.put(0, 0, -1);
        x.put(0, 2, 5);
        dueNothingTold("put alone tells nothing", x);
        due("a third solve()", x.solve(), 0);
        dueFraction("a third solve()", x, 0, -5, 1);
        dueFraction("a third solve()", x, 1, 3, 2);
        x.put(0, 2, 4);
        due("a fourth solve()", x.solve(), 0);
        dueFraction("a fourth solve()", x, 0, -4, 1);
        due("a fifth solve()", x.solve(), 0);
        dueFraction("a fifth solve(), of the same", x, 0, -4, 1);
    }

    private static void solveTellsTillTheNextBegin() {
        for (int n = 1; n <= MOST_ROWS; n++) {
            Subject x = halvesTold(n);
            due("begin(" + n + ")", x.begin(n), true);
            dueNothingTold("the next begin()", x);
            x.put(0, 0, 1);
            dueNothingTold("put after begin()", x);
        }
    }

    // "-1 there is not just one"

    private static void solveOfNotJustOneTellsNothing() {
        for (int n = 1; n <= MOST_ROWS; n++) {
            for (int column = 0; column < n; column += Math.max(1, n - 1)) {
                Subject x = halvesTold(n);
                for (int row = 0; row < n; row++) {
                    x.put(row, column, 0);
                }
                dueHalves("before solve() of a column of 0", x, n);
                due("column " + column + " of " + n + " is 0: solve()", x.solve(), -1);
                dueNothingTold("column " + column + " of " + n + " is 0", x);
            }
        }
    }

    // "1 plus the least k whose numerator or denominator is no long (then nothing is told)"

    private static void solveOfNoLongTellsNothing() {
        Subject x = of(row(1, 0, 0, 7), row(0, 1, MIN, 0), row(MIN, 0, 1, 0));
        due("all are longs, or not", x.solve(), 2);
        dueNothingTold("x 1 is no long: x 0 and x 2 are not told either", x);
        x.put(0, 3, 1);
        due("x 1 is 2^62: solve()", x.solve(), 0);
        dueFraction("x 1 is 2^62", x, 1, 1L << 62, 1);
        x.put(0, 3, 2);
        dueFraction("x 1 is 2^62, still told", x, 1, 1L << 62, 1);
        due("x 1 is 2^63: solve()", x.solve(), 2);
        dueNothingTold("x 1 is 2^63", x);
        x.put(0, 3, -2);
        due("x 1 is -2^63: solve()", x.solve(), 0);
        dueFraction("x 1 is -2^63", x, 0, -2, 1);
        dueFraction("x 1 is -2^63", x, 1, Long.MIN_VALUE, 1);
        dueFraction("x 1 is -2^63", x, 2, -4294967296L, 1);
    }

    private static void solveNumeratorBounds() {
        dueFirst("numerator 2^63 - 1", product(2, -1, 1), Long.MAX_VALUE, 1);
        dueNoLong("numerator 2^63", product(2, 0, 1));
        dueNoLong("numerator 2^63 + 1", product(2, 1, 1));
        dueFirst("numerator -2^63 + 1", product(-2, 1, 1), -Long.MAX_VALUE, 1);
        dueFirst("numerator -2^63", product(-2, 0, 1), Long.MIN_VALUE, 1);
        dueNoLong("numerator -2^63 - 1", product(-2, -1, 1));
        dueFirst("numerator 2^63 - 1 by -1", product(-2, 1, -1), Long.MAX_VALUE, 1);
        dueNoLong("numerator 2^63 by -1", product(-2, 0, -1));
        dueFirst("numerator -2^63 by -1", product(2, 0, -1), Long.MIN_VALUE, 1);
        dueNoLong("numerator -2^63 - 1 by -1", product(2, 1, -1));
        dueFirst("-2^63 over 3", product(-2, 0, 3), Long.MIN_VALUE, 3);
        dueNoLong("2^63 over 3", product(2, 0, 3));
        dueFirst("-2^64 over 2", product(-4, 0, 2), Long.MIN_VALUE, 1);
        dueNoLong("2^64 over 2", product(4, 0, 2));
        dueFirst("2^64 - 2 over 2", product(4, -2, 2), Long.MAX_VALUE, 1);
        dueNoLong("-2^64 - 2 over 2", product(-4, -2, 2));
        dueNoLong("numerator 2^64", product(4, 0, 1));
        dueNoLong("numerator 2^64 + 5, which wraps to 5", product(4, 5, 1));
        dueNoLong("numerator -2^64 + 5, which wraps to 5", product(-4, 5, 1));
        dueNoLong("numerator 2^64 - 5, which wraps to -5", product(4, -5, 1));
        dueNoLong("numerator 2^93", product(MIN, 0, -1));
        dueNoLong("numerator -2^93", product(MIN, 0, 1));
    }

    private static void solveDenominatorBounds() {
        dueFirst("denominator 2^63 - 1", quotient(153092023, 92737, 649657, 1), 1, Long.MAX_VALUE);
        dueFirst("-1 over 2^63 - 1", quotient(153092023, 92737, 649657, -1), -1, Long.MAX_VALUE);
        dueFirst("1 over -(2^63 - 1)", quotient(153092023, 92737, -649657, 1), -1, Long.MAX_VALUE);
        dueFirst("denominator 2^62", quotient(MIN, MIN, 1, 1), 1, 1L << 62);
        dueNoLong("1 over 2^63", quotient(MIN, MIN, 2, 1));
        dueNoLong("-1 over 2^63", quotient(MIN, MIN, 2, -1));
        dueNoLong("1 over -2^63", quotient(MIN, MIN, -2, 1));
        dueNoLong("-1 over -2^63", quotient(MIN, MIN, -2, -1));
        dueFirst("2 over 2^63", quotient(MIN, MIN, 2, 2), 1, 1L << 62);
        dueFirst("-2 over -2^63", quotient(MIN, MIN, -2, -2), 1, 1L << 62);
        dueNoLong("2 over 2^64", quotient(MIN, MIN, 4, 2));
        dueFirst("4 over 2^64", quotient(MIN, MIN, 4, 4), 1, 1L << 62);
        dueNoLong("denominator 2^64", quotient(MIN, MIN, 4, 1));
        dueNoLong("denominator 2^64 + 4, which wraps to 4", quotient(769546, 494770, 48448661, 1));
        dueNoLong("denominator 2^64 + 21, which wraps to 21", quotient(61836419, 252871, 1179713, 1));
        dueNoLong("denominator of 93 bits", quotient(MAX, MAX, MAX, 1));
        dueFirst("the largest that shortens", quotient(MAX, MAX, MAX, MAX), 1, (long) MAX * MAX);
    }

    /** Denominators whose factors are too large for ints. */
    private static void solveDenominatorsJustOutside() {
        dueFirst("1 over 2^63 - 1", ring(2, -1, 1), 1, Long.MAX_VALUE);
        dueFirst("1 over -(2^63 - 1)", ring(-2, 1, 1), -1, Long.MAX_VALUE);
        for (int above : new int[] {1, -1, 2, -2, MIN, MAX}) {
            dueNoLong(above + " over 2^63 + 1", ring(2, 1, above));
            dueNoLong(above + " over -(2^63 + 1)", ring(-2, -1, above));
            dueNoLong(above + " over 2^63 + 5", ring(2, 5, above));
            dueNoLong(above + " over 2^64 - 1", ring(4, -1, above));
            dueNoLong(above + " over 2^64 + 1, which wraps to 1", ring(4, 1, above));
        }
        // 2^63 + 1 is 3 times a long, so that a numerator with a factor of 3 makes it one.
        long third = 3074457345618258603L;
        for (int sign = -1; sign <= 1; sign += 2) {
            Subject x = of(ring(2, 1, 3 * sign));
            due("3 over 2^63 + 1: solve()", x.solve(), 0);
            dueFraction("3 over 2^63 + 1", x, 0, sign, third);
            dueFraction("3 * 2^31 over 2^63 + 1", x, 1, sign * (1L << 31), third);
            dueFraction("3 * 2^62 over 2^63 + 1", x, 2, sign * (1L << 62), third);
        }
        dueLastJustOutside();
    }

    /** x 0 and x 1 have the denominator 77158673929, and the last x is x 0 over the other factor of 2^63 + 1. */
    private static void dueLastJustOutside() {
        for (int n = 3; n <= MOST_ROWS; n++) {
            int[][] rows = new int[n][n + 1];
            for (int k = 2; k < n - 1; k++) {
                rows[k][k] = 1;
                rows[k][n] = k;
            }
            rows[0][0] = 262144;
            rows[0][1] = -1;
            rows[1][0] = 257545;
            rows[1][1] = 294336;
            rows[1][n] = 1;
            rows[n - 1][0] = -1;
            rows[n - 1][n - 1] = 119537721;
            Subject x = of(rows);
            String name = "x " + (n - 1) + " = 1 over 2^63 + 1";
            due(name + ": solve()", x.solve(), n);
            dueNothingTold(name, x);
            dueSystem(name, x, rows);
            x.put(n - 1, n - 1, 119537721 / 3);
            due(name + ", but for a factor of 3: solve()", x.solve(), 0);
            dueFraction(name + ", but for a factor of 3", x, 0, 1, 77158673929L);
            dueFraction(name + ", but for a factor of 3", x, 1, 262144, 77158673929L);
            dueFraction(name + ", but for a factor of 3", x, n - 1, 1, 3074457345618258603L);
        }
    }

    private static void solveAnswersTheLeast() {
        for (int n = 3; n <= MOST_ROWS; n++) {
            for (int least = 0; least < n; least++) {
                dueLeast("numerator", n, least, true);
                dueLeast("denominator", n, least, false);
            }
        }
        due("a numerator before a denominator", of(mixed(true)).solve(), 1);
        due("a denominator before a numerator", of(mixed(false)).solve(), 1);
    }

    /** x least is no long; those before it are, and those after it are none but for two that it is made of. */
    private static void dueLeast(String kind, int n, int least, boolean numerator) {
        int first = least < n - 2 ? n - 1 : 0;
        int second = least < n - 2 ? n - 2 : least == n - 2 ? n - 1 : 1;
        int[][] rows = new int[n][n + 1];
        for (int k = 0; k < n; k++) {
            if (k == first) {
                start(rows, k, numerator);
            } else if (k == second) {
                link(rows, k, first, numerator);
            } else if (k < least) {
                rows[k][k] = 1;
                rows[k][n] = k;
            } else {
                link(rows, k, second, numerator);
            }
        }
        Subject x = of(rows);
        String name = kind + " of x " + least + " of " + n;
        due(name + ": solve()", x.solve(), least + 1);
        dueNothingTold(name, x);
        dueSystem(name, x, rows);
    }

    /** x k = 3, or 1 / 2: two links further it is no long. */
    private static void start(int[][] rows, int k, boolean numerator) {
        rows[k][k] = numerator ? 1 : 2;
        rows[k][rows.length] = numerator ? 3 : 1;
    }

    /** x k = x from times -2^31, or over 2^31 */
    private static void link(int[][] rows, int k, int from, boolean numerator) {
        rows[k][k] = numerator ? -1 : MIN;
        rows[k][from] = numerator ? MIN : 1;
    }

    /** Of x 0 and x 5 one is 3 * 2^62, the other 1 / 2^63. */
    private static int[][] mixed(boolean numeratorFirst) {
        int[][] rows = new int[6][7];
        start(rows, 1, true);
        link(rows, 2, 1, true);
        link(rows, numeratorFirst ? 0 : 5, 2, true);
        start(rows, 3, false);
        link(rows, 4, 3, false);
        link(rows, numeratorFirst ? 5 : 0, 4, false);
        return rows;
    }

    // "The system stays as it is."

    private static void solveKeepsTheSystem() {
        for (int n = 1; n <= MOST_ROWS; n++) {
            Subject x = halvesTold(n);
            dueSystem("after 0 at size " + n, x, halves(n));
            due("once more at size " + n, x.solve(), 0);
            dueHalves("once more at size " + n, x, n);
            dueSystem("after 0 twice at size " + n, x, halves(n));
        }
        dueKept("after -1", -1, row(0, 5, -7, MAX), row(0, 3, 2, 1), row(0, MAX, 4, MIN));
        dueKept("after -1, late", -1, row(1, 2, 3, MIN), row(4, 5, 6, MAX), row(7, 8, 9, 1));
        dueKept("after 1", 1, product(2, 0, 1));
        dueKept("after 3", 3, row(0, 3, -1, 0), row(MIN, -1, 0, 0), row(-1, 0, 0, MAX));
    }

    private static void dueKept(String name, int answer, int[]... rows) {
        Subject x = of(rows);
        for (int turn = 0; turn < 3; turn++) {
            due(name + ": solve()", x.solve(), answer);
            dueSystem(name, x, rows);
        }
    }

    // Promises 6 and 7: "0 if none is told"

    private static void aboveAndUnderOfNone() {
        dueNothingTold("new", new Subject());
        for (int n = 1; n <= MOST_ROWS; n++) {
            Subject x = of(halves(n));
            dueNothingTold("before solve() at size " + n, x);
            due("solve()", x.solve(), 0);
            dueHalves("told", x, n);
            x.begin(n);
            dueNothingTold("after begin() at size " + n, x);
            due("solve() of zeros", x.solve(), -1);
            dueNothingTold("after -1 at size " + n, x);
        }
        dueNoLong("after 1", product(2, 0, 1));
    }

    private static void aboveAndUnderOutside() {
        for (int n = 1; n <= MOST_ROWS; n++) {
            Subject x = halvesTold(MOST_ROWS);
            fill(x, halves(n));
            due("solve() of " + n + " after 10", x.solve(), 0);
            dueFraction("first of " + n, x, 0, 1, 2);
            dueFraction("last of " + n, x, n - 1, 2 * n - 1, 2);
            dueFraction("before the first of " + n, x, -1, 0, 0);
            for (int k = n; k <= MOST_ROWS + 1; k++) {
                dueFraction("after the last of " + n, x, k, 0, 0);
            }
            for (int far : FAR_OUTSIDE) {
                dueFraction("far outside of " + n, x, far, 0, 0);
            }
            dueHalves("still told", x, n);
        }
    }

    // What it is: "An object is used for at most 512 calls after it has been made"

    private static void lastCallsOfAll() {
        Subject x = nearItsEnd(2);
        due("call 511, solve()", x.solve(), 0);
        due("call 512, above(9)", x.above(9), 19L);
        x = nearItsEnd(1);
        due("call 512, under(9)", x.under(9), 2L);
        x = nearItsEnd(1);
        due("call 512, solve()", x.solve(), 0);
        x = nearItsEnd(1);
        due("call 512, get(9, 10)", x.get(9, 10), halves(MOST_ROWS)[9][10]);
        x = nearItsEnd(1);
        due("call 512, get(10, 10)", x.get(10, 10), 0);
        x = nearItsEnd(2);
        due("call 511, put(9, 10, MIN)", x.put(9, 10, MIN), true);
        due("call 512, get(9, 10)", x.get(9, 10), MIN);
        x = nearItsEnd(1);
        due("call 512, put(10, 0, 1)", x.put(10, 0, 1), false);
        x = nearItsEnd(2);
        due("call 511, begin(1)", x.begin(1), true);
        due("call 512, get(0, 0)", x.get(0, 0), 0);
        x = nearItsEnd(1);
        due("call 512, begin(11)", x.begin(11), false);
        x = nearItsEnd(2);
        due("call 511, begin(0)", x.begin(0), false);
        due("call 512, above(9)", x.above(9), 19L);
    }

    /** A told system of ten rows with so many calls left, after as many calls of solve() as there is room for. */
    private static Subject nearItsEnd(int callsLeft) {
        Subject x = of(halves(MOST_ROWS));
        while (x.callsLeft() > callsLeft) {
            due("solve() with " + x.callsLeft() + " calls left", x.solve(), 0);
        }
        return x;
    }
}
