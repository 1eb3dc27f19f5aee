import java.math.BigInteger;

/** Runs of calls chosen by hand, promise by promise: ordinary inputs, edges and wrong inputs. */
public final class PromiseTests {
    private static final int MIN = Integer.MIN_VALUE;
    private static final int MAX = Integer.MAX_VALUE;
    private static final int[] OUTSIDE = {-1, -2, 11, 12, 100, 32768, MAX, MAX - 1, MIN, MIN + 1};

    private static int wrong = 0;

    public static void main(String[] args) {
        termsSolution();
        termsRefused();
        newObject();
        beginTakesSizes();
        beginRefuses();
        putAndGet();
        putRefuses();
        getOutside();
        solveOrdinary();
        solveNotJustOne();
        solveKeepsTheSystem();
        solveAtTheEdgeOfLong();
        solveNamesTheLeast();
        solveLargest();
        toldTillNextSolveOrBegin();
        aboveAndUnderOutside();
        manyCalls();
        System.out.println(wrong == 0 ? "all answers are as due" : wrong + " answers are not as due");
        if (wrong != 0) {
            System.exit(1);
        }
    }

    private static void due(String call, Object got, Object want) {
        if (!got.equals(want)) {
            wrong++;
            System.out.println(call + " answered " + got + ", due is " + want);
        }
    }

    /** Begins a system with these rows, the right side last in each. */
    private static void fill(RowReduction x, int[][] rows) {
        due("begin", x.begin(rows.length), true);
        for (int row = 0; row < rows.length; row++) {
            for (int k = 0; k < rows[row].length; k++) {
                due("put(" + row + ", " + k + ")", x.put(row, k, rows[row][k]), true);
            }
        }
    }

    private static RowReduction of(int[]... rows) {
        RowReduction x = new RowReduction();
        fill(x, rows);
        return x;
    }

    private static int[] row(int... numbers) {
        return numbers;
    }

    private static void dueFraction(String name, RowReduction x, int k, long above, long under) {
        due(name + ": above(" + k + ")", x.above(k), above);
        due(name + ": under(" + k + ")", x.under(k), under);
    }

    private static void dueNothingTold(String name, RowReduction x) {
        for (int k = -1; k <= 11; k++) {
            dueFraction(name, x, k, 0, 0);
        }
    }

    // Terms: "Its SOLUTION are n numbers x (0 .. n - 1) for which in each row the sum of the row's k-th number
    // times x k is the right side."

    private static void termsSolution() {
        for (int n = 1; n <= 10; n++) {
            int[][] rows = new int[n][n + 1];
            for (int row = 0; row < n; row++) {
                for (int k = 0; k <= n; k++) {
                    rows[row][k] = (row * 7 + k * 5) % 11 - 5 + (row == k ? 40 : 0);
                }
            }
            RowReduction x = of(rows);
            due("solve() of " + n, x.solve(), 0);
            for (int row = 0; row < n; row++) {
                dueSum("row " + row + " of " + n, x, rows[row]);
            }
        }
    }

    /** The sum as one fraction, whose denominator is all of theirs multiplied. */
    private static void dueSum(String name, RowReduction x, int[] row) {
        int n = row.length - 1;
        BigInteger above = BigInteger.ZERO;
        BigInteger under = BigInteger.ONE;
        for (int k = 0; k < n; k++) {
            BigInteger part = BigInteger.valueOf(row[k]).multiply(BigInteger.valueOf(x.above(k)));
            above = above.multiply(BigInteger.valueOf(x.under(k))).add(part.multiply(under));
            under = under.multiply(BigInteger.valueOf(x.under(k)));
        }
        due(name + ": its sum", above, under.multiply(BigInteger.valueOf(row[n])));
    }

    // "A call that is refused changes nothing."

    private static void termsRefused() {
        int[][] solved = {row(2, 0, 6), row(0, 4, 6)};
        int[][] alike = {row(1, 2, 3), row(1, 2, 3)};
        int[][] noLong = {row(1, MIN, 0, 0), row(0, 1, MIN, 0), row(0, 0, 1, 2)};
        dueRefusedChangesNothing("new", new RowReduction(), 1);
        dueRefusedChangesNothing("begun", of(new int[10][11]), 10);
        dueRefusedChangesNothing("filled", of(solved), 2);
        RowReduction x = of(solved);
        due("solve()", x.solve(), 0);
        dueRefusedChangesNothing("told", x, 2);
        x = of(alike);
        due("solve()", x.solve(), -1);
        dueRefusedChangesNothing("after -1", x, 2);
        x = of(noLong);
        due("solve()", x.solve(), 1);
        dueRefusedChangesNothing("after 1", x, 3);
        x = of(solved);
        due("solve()", x.solve(), 0);
        x.put(0, 0, 0);
        dueRefusedChangesNothing("told, then put", x, 2);
    }

    private static void dueRefusedChangesNothing(String name, RowReduction x, int n) {
        String before = shown(x, n);
        due(name + ": begin(0)", x.begin(0), false);
        due(name + ": begin(11)", x.begin(11), false);
        due(name + ": put(" + n + ", 0, 9)", x.put(n, 0, 9), false);
        due(name + ": put(0, " + (n + 1) + ", 9)", x.put(0, n + 1, 9), false);
        for (int outside : OUTSIDE) {
            due(name + ": begin(" + outside + ")", x.begin(outside), false);
            due(name + ": put(" + outside + ", 0, 9)", x.put(outside, 0, 9), false);
            due(name + ": put(0, " + outside + ", 9)", x.put(0, outside, 9), false);
        }
        due(name + ": what it shows", shown(x, n), before);
    }

    /** All that can be asked of it without a change. */
    private static String shown(RowReduction x, int n) {
        StringBuilder text = new StringBuilder();
        for (int row = 0; row <= n; row++) {
            for (int k = 0; k <= n + 1; k++) {
                text.append(x.get(row, k)).append(' ');
            }
            text.append(": ").append(x.above(row)).append('/').append(x.under(row)).append("; ");
        }
        return text.toString();
    }

    // Promise 1: "A system of size 1."

    private static void newObject() {
        RowReduction x = new RowReduction();
        dueNothingTold("new", x);
        due("new: get(0, 0)", x.get(0, 0), 0);
        due("new: get(0, 1)", x.get(0, 1), 0);
        due("new: solve()", x.solve(), -1);
        due("new: put(0, 2, 1)", x.put(0, 2, 1), false);
        due("new: put(1, 0, 1)", x.put(1, 0, 1), false);
        due("new: put(0, 0, 4)", x.put(0, 0, 4), true);
        due("new: put(0, 1, -6)", x.put(0, 1, -6), true);
        due("new: solve() of 4 x = -6", x.solve(), 0);
        dueFraction("new", x, 0, -3, 2);
        RowReduction other = new RowReduction();
        due("another new: get(0, 0)", other.get(0, 0), 0);
        dueNothingTold("another new", other);
    }

    // Promise 2: "A system of so many rows, all 0, with no solution told: true; false if n is not 1 .. 10."

    private static void beginTakesSizes() {
        for (int n = 1; n <= 10; n++) {
            RowReduction x = new RowReduction();
            due("begin(" + n + ")", x.begin(n), true);
            dueAllZero("begin(" + n + ")", x);
            due("put of the last right side", x.put(n - 1, n, n), true);
            due("put of the first number", x.put(0, 0, -n), true);
            due("put in a row too many", x.put(n, 0, 1), false);
            due("put of a number too many", x.put(0, n + 1, 1), false);
        }
        RowReduction x = new RowReduction();
        due("begin(10)", x.begin(10), true);
        for (int row = 0; row < 10; row++) {
            for (int k = 0; k <= 10; k++) {
                due("put everywhere", x.put(row, k, 1 + row * 11 + k), true);
            }
        }
        due("begin(2) after 10", x.begin(2), true);
        due("begin(10) after 2", x.begin(10), true);
        dueAllZero("begin(10) after 2", x);
    }

    private static void dueAllZero(String name, RowReduction x) {
        for (int row = 0; row <= 10; row++) {
            for (int k = 0; k <= 11; k++) {
                due(name + ": get(" + row + ", " + k + ")", x.get(row, k), 0);
            }
        }
    }

    private static void beginRefuses() {
        RowReduction x = of(row(2, 0, 6), row(0, 4, 6));
        due("solve()", x.solve(), 0);
        due("begin(0)", x.begin(0), false);
        for (int n : OUTSIDE) {
            due("begin(" + n + ")", x.begin(n), false);
        }
        due("refused begin: get(0, 2)", x.get(0, 2), 6);
        due("refused begin: get(1, 1)", x.get(1, 1), 4);
        dueFraction("refused begin", x, 0, 3, 1);
        dueFraction("refused begin", x, 1, 3, 2);
        due("refused begin: put(2, 0, 1)", x.put(2, 0, 1), false);
        due("refused begin: solve()", x.solve(), 0);
    }

    // Promise 3: "Number k of a row (its right side for k = n) becomes v: true; false if there is no such row or
    // number." Promise 4: "Number k of a row; 0 if there is none."

    private static void putAndGet() {
        RowReduction x = new RowReduction();
        int[] values = {MIN, MAX, -1, 0, 1, 65536, -65536, 12345};
        for (int n = 1; n <= 10; n++) {
            x = new RowReduction();
            x.begin(n);
            for (int row = 0; row < n; row++) {
                for (int k = 0; k <= n; k++) {
                    due("put", x.put(row, k, values[(row * 3 + k) % 8]), true);
                }
            }
            for (int row = 0; row < n; row++) {
                for (int k = 0; k <= n; k++) {
                    due("get(" + row + ", " + k + ") of " + n, x.get(row, k), values[(row * 3 + k) % 8]);
                }
            }
        }
        due("put over", x.put(9, 10, 77), true);
        due("get over", x.get(9, 10), 77);
        due("its neighbour", x.get(9, 9), values[(9 * 3 + 9) % 8]);
    }

    private static void putRefuses() {
        RowReduction x = of(row(1, 2, 3), row(4, 5, 6));
        due("solve()", x.solve(), 0);
        for (int wrongOne : OUTSIDE) {
            due("put(" + wrongOne + ", 0, 9)", x.put(wrongOne, 0, 9), false);
            due("put(0, " + wrongOne + ", 9)", x.put(0, wrongOne, 9), false);
            due("put(" + wrongOne + ", " + wrongOne + ", 9)", x.put(wrongOne, wrongOne, 9), false);
        }
        due("put(2, 0, 9)", x.put(2, 0, 9), false);
        due("put(2, 2, 9)", x.put(2, 2, 9), false);
        due("put(0, 3, 9)", x.put(0, 3, 9), false);
        due("put(1, 3, 9)", x.put(1, 3, 9), false);
        due("put(1, -1, 9)", x.put(1, -1, 9), false);
        for (int i = 0; i < 6; i++) {
            due("refused put: get(" + i / 3 + ", " + i % 3 + ")", x.get(i / 3, i % 3), i + 1);
        }
        dueFraction("refused put", x, 0, -1, 1);
        dueFraction("refused put", x, 1, 2, 1);
    }

    private static void getOutside() {
        RowReduction x = of(row(1, 2, 3), row(4, 5, 6));
        for (int wrongOne : OUTSIDE) {
            due("get(" + wrongOne + ", 0)", x.get(wrongOne, 0), 0);
            due("get(0, " + wrongOne + ")", x.get(0, wrongOne), 0);
            due("get(" + wrongOne + ", " + wrongOne + ")", x.get(wrongOne, wrongOne), 0);
        }
        due("get(2, 0)", x.get(2, 0), 0);
        due("get(0, 3)", x.get(0, 3), 0);
        due("get(1, -1)", x.get(1, -1), 0);
        due("get(1, 2)", x.get(1, 2), 6);
    }

    // Promise 5: "Solves it: 0, and the solution is told till the next solve() or begin(); -1 there is not just one;
    // 1 plus the least k whose numerator or denominator is no long (then nothing is told). The system stays as it
    // is." Promise 6: "The numerator of x k; 0 if none is told." Promise 7: "Its denominator; 0 if none is told."

    private static void solveOrdinary() {
        RowReduction x = of(row(6, 4), row());
        due("a system without its second row", x.solve(), -1);
        x = of(row(-8, 12));
        due("-8 x = 12", x.solve(), 0);
        dueFraction("-8 x = 12", x, 0, -3, 2);
        x = of(row(-8, -12));
        due("-8 x = -12", x.solve(), 0);
        dueFraction("-8 x = -12", x, 0, 3, 2);
        x = of(row(5, 0));
        due("5 x = 0", x.solve(), 0);
        dueFraction("5 x = 0", x, 0, 0, 1);
        x = of(row(-5, 0));
        due("-5 x = 0", x.solve(), 0);
        dueFraction("-5 x = 0", x, 0, 0, 1);
        x = of(row(0, 0, 2, 6), row(0, -3, 0, 4), row(9, 0, 0, 3));
        due("rows out of order", x.solve(), 0);
        dueFraction("rows out of order", x, 0, 1, 3);
        dueFraction("rows out of order", x, 1, -4, 3);
        dueFraction("rows out of order", x, 2, 3, 1);
        x = of(row(1, 1, 1, 6), row(1, 1, 2, 9), row(1, 2, 3, 14));
        due("a pivot that becomes 0", x.solve(), 0);
        dueFraction("a pivot that becomes 0", x, 0, 1, 1);
        dueFraction("a pivot that becomes 0", x, 1, 2, 1);
        dueFraction("a pivot that becomes 0", x, 2, 3, 1);
        x = of(row(MIN, MIN));
        due("MIN x = MIN", x.solve(), 0);
        dueFraction("MIN x = MIN", x, 0, 1, 1);
        x = of(row(MIN, MAX));
        due("MIN x = MAX", x.solve(), 0);
        dueFraction("MIN x = MAX", x, 0, -2147483647L, 2147483648L);
        x = of(row(-1, MIN));
        due("-x = MIN", x.solve(), 0);
        dueFraction("-x = MIN", x, 0, 2147483648L, 1);
    }

    private static void solveNotJustOne() {
        due("0 x = 0", of(row(0, 0)).solve(), -1);
        due("0 x = 1", of(row(0, 1)).solve(), -1);
        due("two rows alike", of(row(1, 2, 3), row(1, 2, 3)).solve(), -1);
        due("two rows that clash", of(row(1, 2, 3), row(1, 2, 4)).solve(), -1);
        due("a column of 0", of(row(0, 2, 4), row(0, 3, 6)).solve(), -1);
        due("a last column of 0", of(row(2, 0, 4), row(3, 0, 5)).solve(), -1);
        due("rank 2 of 3", of(row(1, 2, 3, 6), row(4, 5, 6, 15), row(7, 8, 9, 24)).solve(), -1);
        due("rank 2 of 3, clashing", of(row(1, 2, 3, 6), row(4, 5, 6, 15), row(7, 8, 9, 25)).solve(), -1);
        due("large rows alike", of(row(MIN, MAX, 1), row(MIN, MAX, 2)).solve(), -1);
        RowReduction x = of(row(3, 6));
        due("solve()", x.solve(), 0);
        x.put(0, 0, 0);
        due("solve() of 0 x = 6", x.solve(), -1);
        dueNothingTold("after -1", x);
    }

    private static void solveKeepsTheSystem() {
        int[][] rows = {row(0, 5, -7, MAX), row(MIN, 3, 2, 1), row(9, MAX, 4, MIN)};
        RowReduction x = of(rows);
        for (int turn = 0; turn < 3; turn++) {
            x.solve();
            for (int row = 0; row < 3; row++) {
                for (int k = 0; k <= 3; k++) {
                    due("get after solve()", x.get(row, k), rows[row][k]);
                }
            }
        }
    }

    /** x 0 = 2^62 * last + side */
    private static RowReduction chain(int last, int side) {
        return of(row(1, MIN, 0, side), row(0, -1, MIN, 0), row(0, 0, -1, last));
    }

    /** x 0 = above / (a * b * c) */
    private static RowReduction quotients(int a, int b, int c, int above) {
        return of(row(a, -1, 0, 0), row(0, b, -1, 0), row(0, 0, c, above));
    }

    private static void solveAtTheEdgeOfLong() {
        RowReduction x = chain(-2, 0);
        due("numerator -2^63", x.solve(), 0);
        dueFraction("numerator -2^63", x, 0, Long.MIN_VALUE, 1);
        due("numerator 2^63", chain(2, 0).solve(), 1);
        due("numerator -2^63 - 1", chain(-2, -1).solve(), 1);
        x = chain(2, -1);
        due("numerator 2^63 - 1", x.solve(), 0);
        dueFraction("numerator 2^63 - 1", x, 0, Long.MAX_VALUE, 1);
        x = chain(-2, 1);
        due("numerator -2^63 + 1", x.solve(), 0);
        dueFraction("numerator -2^63 + 1", x, 0, -Long.MAX_VALUE, 1);
        due("denominator 2^63", quotients(MIN, MIN, 2, 1).solve(), 1);
        due("denominator 2^63, negative", quotients(MIN, MIN, -2, 1).solve(), 1);
        due("denominator 2^63, both negative", quotients(MIN, MIN, -2, -1).solve(), 1);
        x = quotients(MIN, MIN, 2, 2);
        due("denominator 2^62", x.solve(), 0);
        dueFraction("denominator 2^62", x, 0, 1, 1L << 62);
        x = quotients(153092023, 92737, 649657, -1);
        due("denominator 2^63 - 1", x.solve(), 0);
        dueFraction("denominator 2^63 - 1", x, 0, -1, Long.MAX_VALUE);
        x = quotients(-153092023, 92737, 649657, 649657);
        due("a fraction that shortens to a long", x.solve(), 0);
        dueFraction("a fraction that shortens to a long", x, 0, -1, 153092023L * 92737L);
        due("denominator of 93 bits", quotients(MAX, MAX, MAX, 1).solve(), 1);
        x = quotients(MAX, MAX, MAX, 0);
        due("0 over 93 bits", x.solve(), 0);
        dueFraction("0 over 93 bits", x, 0, 0, 1);
    }

    private static void solveNamesTheLeast() {
        int[][] rows = {row(1, 0, 0, 0, 5), row(0, 1, 0, 0, 7), row(0, 0, 1, MIN, 0), row(0, 0, 0, 1, 1)};
        RowReduction x = of(rows);
        due("all are longs", x.solve(), 0);
        dueFraction("all are longs", x, 2, 2147483648L, 1);
        // x 1 = 2^31 * x 2 = 2^62 * x 3: for 2 the least that is no long is x 1
        x = of(row(1, 0, 0, 0, 5), row(0, 1, MIN, 0, 0), row(0, 0, 1, MIN, 0), row(0, 0, 0, 1, 2));
        due("x 1 is no long", x.solve(), 2);
        dueNothingTold("x 1 is no long", x);
        x = of(row(1, 0, 0, 0, 5), row(0, 1, 0, 0, 5), row(0, 0, 0, 1, 2), row(1, 0, 0, 0, 5));
        due("rows alike", x.solve(), -1);
        x = of(row(0, 0, MIN, 1, 0), row(MIN, 0, 1, 0, 0), row(1, 0, 0, 0, 2), row(0, 1, 0, 0, 3));
        due("x 3 is no long", x.solve(), 4);
        x = of(row(1, 0, 0, 3), row(MIN, 1, 0, 0), row(0, MIN, 1, 0));
        due("x 2 is no long", x.solve(), 3);
        dueNothingTold("x 2 is no long", x);
        x = of(row(2, 0, 0, 1), row(1, MIN, 0, 0), row(0, 1, MIN, 0));
        due("the denominator of x 2 is no long", x.solve(), 3);
        dueNothingTold("the denominator of x 2 is no long", x);
        x = of(row(2, 0, 0, 1), row(1, 0, MIN, 0), row(0, MIN, 1, 0));
        due("the denominator of x 1 is no long", x.solve(), 2);
    }

    /** Ten rows, the last unknown the first that is no long. */
    private static void solveLargest() {
        int[][] rows = new int[10][11];
        for (int k = 0; k < 10; k++) {
            rows[k][k] = 1;
            rows[k][10] = k + 1;
        }
        RowReduction x = of(rows);
        due("ten rows", x.solve(), 0);
        for (int k = 0; k < 10; k++) {
            dueFraction("ten rows", x, k, k + 1, 1);
        }
        x.put(8, 7, MIN);
        x.put(8, 10, 0);
        x.put(9, 8, MIN);
        due("ten rows, x 9 no long", x.solve(), 10);
        for (int k = 0; k < 10; k++) {
            for (int i = 0; i < 10; i++) {
                x.put(k, i, k == i ? MIN : 0);
            }
            x.put(k, 10, MAX);
        }
        due("ten times MIN x = MAX", x.solve(), 0);
        for (int k = 0; k < 10; k++) {
            dueFraction("ten times MIN x = MAX", x, k, -2147483647L, 2147483648L);
        }
        hadamard(x);
    }

    /** Eight rows whose minors are nearly as large as any can be. */
    private static void hadamard(RowReduction x) {
        x.begin(8);
        for (int row = 0; row < 8; row++) {
            for (int k = 0; k < 8; k++) {
                x.put(row, k, Integer.bitCount(row & k) % 2 == 0 ? MIN : MAX);
            }
            x.put(row, 8, MIN);
        }
        due("a Hadamard matrix", x.solve(), 0);
        dueFraction("a Hadamard matrix", x, 0, 1, 1);
        for (int k = 1; k < 8; k++) {
            dueFraction("a Hadamard matrix", x, k, 0, 1);
        }
    }

    private static void toldTillNextSolveOrBegin() {
        RowReduction x = of(row(2, 0, 6), row(0, 4, 6));
        dueNothingTold("before solve()", x);
        due("solve()", x.solve(), 0);
        x.put(0, 0, 0);
        x.put(1, 2, 1);
        x.get(0, 0);
        dueFraction("put after solve()", x, 0, 3, 1);
        dueFraction("put after solve()", x, 1, 3, 2);
        due("solve() of another", x.solve(), -1);
        dueNothingTold("solve() of another", x);
        x.put(0, 0, -2);
        due("solve() of a third", x.solve(), 0);
        dueFraction("solve() of a third", x, 0, -3, 1);
        dueFraction("solve() of a third", x, 1, 1, 4);
        due("begin(2)", x.begin(2), true);
        dueNothingTold("begin(2)", x);
        fill(x, new int[][] {row(1, 0, 5), row(0, 1, 6)});
        due("solve()", x.solve(), 0);
        due("begin(10)", x.begin(10), true);
        dueNothingTold("begin(10)", x);
        due("begin(1)", x.begin(1), true);
        x.put(0, 0, 1);
        x.put(0, 1, 8);
        due("solve() of size 1", x.solve(), 0);
        dueFraction("solve() of size 1", x, 0, 8, 1);
        dueFraction("solve() of size 1", x, 1, 0, 0);
        RowReduction y = of(row(1, MIN, 0, 0), row(0, 1, MIN, 0), row(0, 0, 1, 1));
        due("solve() of longs", y.solve(), 0);
        y.put(2, 3, 2);
        due("solve() of no longs", y.solve(), 1);
        dueNothingTold("solve() of no longs", y);
    }

    private static void aboveAndUnderOutside() {
        RowReduction x = of(row(2, 0, 6), row(0, 4, 6));
        due("solve()", x.solve(), 0);
        dueFraction("a k too large", x, 2, 0, 0);
        for (int k : OUTSIDE) {
            dueFraction("outside", x, k, 0, 0);
        }
        dueFraction("still told", x, 1, 3, 2);
    }

    /** 512 calls, most of them solve(). */
    private static void manyCalls() {
        RowReduction x = new RowReduction();
        x.begin(10);
        int calls = 1;
        for (int row = 0; row < 10; row++) {
            for (int k = 0; k <= 10; k++) {
                x.put(row, k, row == k ? MIN : MAX - row * k);
                calls++;
            }
        }
        int first = x.solve();
        calls++;
        while (calls < 512) {
            due("solve() once more", x.solve(), first);
            calls++;
        }
    }
}
