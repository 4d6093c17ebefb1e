import java.math.BigInteger;

/** Each sentence of the document's Terms that names an edge has a test of its own here. */
public final class TermsEdgesTest {
    private static final int HIGHEST = Integer.MAX_VALUE;
    private static final BigInteger ONE = BigInteger.ONE;
    private static final BigInteger ZERO = BigInteger.ZERO;

    public static void main(String[] args) {
        limbsFromLowestToHighest();
        lowestLimbFirst();
        wrapFromLimbToLimb();
        matrixNumbersFillTheRoom();
        numbersFillTheRoomWithAllBits();
        solvedNumbersFillTheRoom();
        onlyTheQuotientNeedsRoom();
        cancelledProductsNeedNoRoom();
        sumsBeyondTwiceTheRoom();
        firstRowThatHasNotZero();
        rowsAboveAreNoPivots();
        noPivotInEachColumn();
        rightSideIsNoPivot();
        dividedByThePivotBefore();
        belowThePivotStays();
        lastPivotIsD();
        rowsFromLastToFirst();
        oddAndEvenSwaps();
        noRoomAtEachPlace();
        noRoomInALaterStep();
        noRoomInAMiddleN();
        lastOf512Calls();
        Due.end();
    }

    private static void steps(MinorSteps x, int... due) {
        for (int told : due) {
            Due.same("step()", x.step(), told);
        }
    }

    private static void stepsUpTo(MinorSteps x, int count, int last) {
        for (int s = 1; s < count; s++) {
            steps(x, MinorSteps.MORE);
        }
        steps(x, last);
    }

    private static BigInteger power(int bits) {
        return ONE.shiftLeft(bits);
    }

    private static BigInteger full(int limbs) {
        return power(31 * limbs).subtract(ONE);
    }

    private static BigInteger[][] unit(int n) {
        BigInteger[][] rows = new BigInteger[n][n + 1];
        for (int i = 0; i < n; i++) {
            for (int j = 0; j <= n; j++) {
                rows[i][j] = i == j ? ONE : ZERO;
            }
        }
        return rows;
    }

    private static void limbsFromLowestToHighest() {
        Due.sentence("LIMBS, numbers 0 .. 2,147,483,647");
        MinorSteps x = new MinorSteps(1, 3);
        x.entry(0, 0, 1);
        Due.same("limb(0)", x.limb(0), true);
        Due.same("limb(highest)", x.limb(HIGHEST), true);
        Due.same("limb(1)", x.limb(1), true);
        Due.same("number(0, 0, 0)", x.number(0, 0, 0), 0);
        Due.same("number(0, 0, 1)", x.number(0, 0, 1), HIGHEST);
        Due.same("number(0, 0, 2)", x.number(0, 0, 2), 1);
    }

    private static void lowestLimbFirst() {
        Due.sentence("the lowest first");
        MinorSteps x = new MinorSteps(2, 3);
        x.entry(0, 0, 1);
        x.limb(1);
        x.entry(1, 1, -1);
        x.limb(7);
        x.limb(8);
        x.limb(9);
        x.step();
        Load.number("1 times 7, 8, 9", x, 1, 1,
                Load.big(9).shiftLeft(62).add(Load.big(8).shiftLeft(31)).add(Load.big(7)).negate());
    }

    private static void wrapFromLimbToLimb() {
        Due.sentence("to the base 2,147,483,648");
        long half = 1L << 30;
        MinorSteps x = Load.matrix(2, new long[][] {{2, 1, 1}, {1, half, half + 1}});
        x.step();
        // 2 half - 1 is the highest limb, 2 half + 1 is one beyond the base.
        Due.same("one limb", x.number(1, 1, -1), 1);
        Due.same("the highest", x.number(1, 1, 0), HIGHEST);
        Due.same("two limbs", x.number(1, 2, -1), 2);
        Due.same("the lower", x.number(1, 2, 0), 1);
        Due.same("the upper", x.number(1, 2, 1), 1);
        MinorSteps exact = Load.matrix(2, new long[][] {{2, 0, 0}, {0, half, -half}});
        exact.step();
        Load.number("the base", exact, 1, 1, Load.BASE);
        Load.number("the base below 0", exact, 1, 2, Load.BASE.negate());
    }

    private static void matrixNumbersFillTheRoom() {
        Due.sentence("at most so many limbs as is told (its ROOM)");
        for (int room = 1; room <= 16; room++) {
            int bits = 31 * room;
            for (int upper = 1; upper < bits; upper += 11) {
                BigInteger[][] rows = unit(2);
                rows[0][0] = power(upper).negate();
                rows[1][1] = power(bits - 1 - upper);
                MinorSteps fits = Load.matrix(room, rows);
                steps(fits, MinorSteps.MORE);
                Load.number("it fills the room", fits, 1, 1, power(bits - 1).negate());
                rows[1][1] = power(bits - upper);
                MinorSteps beyond = Load.matrix(room, rows);
                steps(beyond, MinorSteps.NO_ROOM);
            }
        }
    }

    private static void numbersFillTheRoomWithAllBits() {
        Due.sentence("at most so many limbs as is told (its ROOM)");
        for (int room = 1; room <= 16; room++) {
            // full(1) times 1, 1, .. 1 is full(room); one more of the base's powers is too much.
            BigInteger ones = full(room).divide(full(1));
            BigInteger[][] rows = unit(2);
            rows[0][0] = full(1);
            rows[1][1] = ones;
            rows[1][2] = ones.negate();
            MinorSteps x = Load.matrix(room, rows);
            steps(x, MinorSteps.MORE);
            Load.number("all bits", x, 1, 1, full(room));
            Load.number("all bits below 0", x, 1, 2, full(room).negate());
            steps(x, MinorSteps.MORE, MinorSteps.MORE, MinorSteps.DONE);
            Load.determinant(x, full(room));
            Load.numerator(x, 1, full(room).negate());
            // full(1) times ones + 1 x 1 is the base to the power of the room: one beyond.
            BigInteger[][] over = {{full(1), ONE, ZERO}, {ONE.negate(), ones, ZERO}};
            steps(Load.matrix(room, over), MinorSteps.NO_ROOM);
        }
    }

    private static void solvedNumbersFillTheRoom() {
        Due.sentence("NO ROOM: some number in the matrix that a step makes, or N");
        for (int room = 1; room <= 16; room++) {
            int bits = 31 * room;
            for (int upper = 1; upper < bits; upper += 13) {
                BigInteger[][] rows = unit(2);
                rows[1][1] = power(upper);
                rows[0][2] = power(bits - 1 - upper).negate();
                MinorSteps fits = Load.matrix(room, rows);
                stepsUpTo(fits, 4, MinorSteps.DONE);
                Load.numerator(fits, 0, power(bits - 1).negate());
                rows[0][2] = power(bits - upper).negate();
                MinorSteps beyond = Load.matrix(room, rows);
                stepsUpTo(beyond, 4, MinorSteps.NO_ROOM);
                Load.numerator(beyond, 0, null);
            }
        }
    }

    private static void onlyTheQuotientNeedsRoom() {
        Due.sentence("by pivot k - 1: without a rest");
        for (int room = 1; room <= 16; room++) {
            BigInteger[] kinds = {full(room), power(31 * room - 1), full(room).negate(),
                power(31 * room - 31), power(31 * room - 30).subtract(ONE)};
            for (BigInteger a : kinds) {
                BigInteger[][] rows = unit(3);
                rows[0][0] = a;
                for (int i = 0; i < 3; i++) {
                    rows[i][3] = ONE;
                }
                MinorSteps x = Load.matrix(room, rows);
                stepsUpTo(x, 6, MinorSteps.DONE);
                Load.pivot(x, 2, a);
                Load.numerator(x, 0, ONE);
                Load.numerator(x, 1, a);
                Load.numerator(x, 2, a);
                Due.same("holds()", x.holds(), true);
            }
        }
    }

    private static void cancelledProductsNeedNoRoom() {
        Due.sentence("less the sum of the numbers in row i and columns j behind i times N j");
        for (int room = 1; room <= 16; room++) {
            BigInteger a = full(room);
            BigInteger[][] rows = unit(6);
            for (int i = 1; i < 6; i++) {
                rows[i][6] = a;
            }
            // Each of two products fills twice the room; what is left of all four is 0.
            rows[0][1] = a;
            rows[0][2] = a;
            rows[0][3] = a.negate();
            rows[0][4] = a.negate();
            rows[0][5] = ONE.negate();
            MinorSteps x = Load.matrix(room, rows);
            stepsUpTo(x, 12, MinorSteps.DONE);
            Load.numerator(x, 0, a);
            Load.numerator(x, 5, a);
            Load.determinant(x, ONE);
            Due.same("holds()", x.holds(), true);
        }
    }

    private static void sumsBeyondTwiceTheRoom() {
        Due.sentence("N i is (D times the right side of row i, less the sum ..), by pivot i");
        for (int room = 1; room <= 16; room++) {
            BigInteger[] kinds = {full(room), full(room).negate()};
            for (BigInteger a : kinds) {
                // N 0 is (2 a times a less a times a) by a; for the other right sides it is - a.
                solveWithSums(room, a, ONE);
                solveWithSums(room, a, ONE.negate());
            }
        }
    }

    private static void solveWithSums(int room, BigInteger a, BigInteger right) {
        BigInteger[][] rows = unit(4);
        rows[0][0] = a;
        rows[0][1] = a.negate();
        rows[0][2] = a.negate();
        rows[0][3] = a;
        for (int i = 1; i < 4; i++) {
            rows[i][4] = right;
        }
        MinorSteps x = Load.matrix(room, rows);
        stepsUpTo(x, 8, MinorSteps.DONE);
        Load.determinant(x, a);
        for (int j = 0; j < 4; j++) {
            Load.numerator(x, j, a.multiply(right));
        }
        Due.same("holds()", x.holds(), true);
    }

    private static void firstRowThatHasNotZero() {
        Due.sentence("the first row from row k on that has not 0 in column k comes to row k");
        for (int first = 0; first < 4; first++) {
            long[][] rows = new long[4][5];
            for (int i = first; i < 4; i++) {
                // Lower rows have larger numbers, and are not taken for that.
                rows[i][0] = 1 + i;
            }
            MinorSteps x = Load.matrix(2, rows);
            steps(x, MinorSteps.MORE);
            for (int i = 0; i < 4; i++) {
                int due = i == 0 ? first : i == first ? 0 : i;
                Due.same("row(" + i + "), first is " + first, x.row(i), due);
            }
            Load.pivot(x, 0, Load.big(1 + first));
        }
    }

    private static void rowsAboveAreNoPivots() {
        Due.sentence("the first row from row k on");
        MinorSteps x = Load.matrix(2, new long[][] {{1, 5, 0, 1}, {0, 0, 1, 1}, {0, 0, 1, 2}});
        steps(x, MinorSteps.MORE, MinorSteps.SINGULAR);
        for (int i = 0; i < 3; i++) {
            Due.same("row(" + i + ")", x.row(i), i);
        }
    }

    private static void noPivotInEachColumn() {
        Due.sentence("if there is none, the matrix is SINGULAR");
        for (int n = 1; n <= 6; n++) {
            for (int k = 0; k < n; k++) {
                BigInteger[][] rows = unit(n);
                rows[k][k] = ZERO;
                MinorSteps x = Load.matrix(1, rows);
                stepsUpTo(x, k + 1, MinorSteps.SINGULAR);
                for (int p = 0; p < n; p++) {
                    Load.pivot(x, p, p < k ? ONE : null);
                    Due.same("row(" + p + ")", x.row(p), p);
                }
            }
        }
    }

    private static void rightSideIsNoPivot() {
        Due.sentence("STEPS 0 .. n - 1 are columns k");
        MinorSteps x = Load.matrix(1, new long[][] {{1, 0, 5}, {0, 0, 7}});
        steps(x, MinorSteps.MORE, MinorSteps.SINGULAR, MinorSteps.SINGULAR);
        Load.number("the right side stays", x, 1, 2, Load.big(7));
        Load.pivot(x, 2, null);
    }

    private static void dividedByThePivotBefore() {
        Due.sentence("by pivot k - 1 (1 for k = 0): without a rest");
        MinorSteps x = Load.matrix(2, new long[][] {{-3, 1, 2, 5}, {4, 5, -6, 7}, {1, -8, 9, 2}});
        steps(x, MinorSteps.MORE);
        Load.matrixIs("k = 0", x,
                new long[][] {{-3, 1, 2, 5}, {4, -19, 10, -41}, {1, 23, -29, -11}});
        steps(x, MinorSteps.MORE);
        // (- 19 times - 29 less 23 times 10) by - 3, (- 19 times - 11 less 23 times - 41) by - 3
        Load.matrixIs("k = 1", x,
                new long[][] {{-3, 1, 2, 5}, {4, -19, 10, -41}, {1, 23, -107, -384}});
    }

    private static void belowThePivotStays() {
        Due.sentence("Numbers in column k below row k are looked at no more");
        MinorSteps x = Load.matrix(2, new long[][] {{0, 2, 3, 1}, {5, 1, 1, 1}, {7, 1, 2, 1}});
        stepsUpTo(x, 6, MinorSteps.DONE);
        Load.number("row 0 went to row 1", x, 1, 0, ZERO);
        Load.number("row 2", x, 2, 0, Load.big(7));
        Load.number("row 2, as step 0 made it", x, 2, 1, Load.big(-2));
    }

    private static void lastPivotIsD() {
        Due.sentence("Pivot n - 1 is D");
        for (int n = 1; n <= 6; n++) {
            BigInteger[][] rows = unit(n);
            for (int i = 0; i < n; i++) {
                rows[i][i] = Load.big(-2 - i);
                rows[i][n] = ONE;
            }
            MinorSteps x = Load.matrix(1, rows);
            stepsUpTo(x, 2 * n, MinorSteps.DONE);
            BigInteger due = Cramer.determinant(rows);
            Load.pivot(x, n - 1, due);
            Load.determinant(x, due);
            for (int j = 0; j < n; j++) {
                Load.numerator(x, j, due.divide(rows[j][j]));
            }
        }
    }

    private static void rowsFromLastToFirst() {
        Due.sentence("STEPS n .. 2 n - 1 are rows n - 1 down to 0");
        // N 0 has no room, N 1 has: the last step but none before it tells.
        MinorSteps upper = Load.matrix(1, new long[][] {{1, 0, 1L << 30}, {0, 2, 1}});
        steps(upper, MinorSteps.MORE, MinorSteps.MORE, MinorSteps.MORE, MinorSteps.NO_ROOM);
        // The row of the last step needs N of all rows behind it.
        MinorSteps chain = Load.matrix(1,
                new long[][] {{1, 1, 1, 6}, {0, 1, 1, 5}, {0, 0, 1, 3}});
        stepsUpTo(chain, 6, MinorSteps.DONE);
        Load.numerator(chain, 0, Load.big(1));
        Load.numerator(chain, 1, Load.big(2));
        Load.numerator(chain, 2, Load.big(3));
    }

    private static void oddAndEvenSwaps() {
        Due.sentence("If rows changed places an odd number of times");
        for (int n = 1; n <= 5; n++) {
            permute(new int[n], 0);
        }
    }

    private static void permute(int[] columns, int from) {
        if (from == columns.length) {
            permutedUnit(columns);
            return;
        }
        for (int column = 0; column < columns.length; column++) {
            boolean used = false;
            for (int i = 0; i < from; i++) {
                used |= columns[i] == column;
            }
            if (!used) {
                columns[from] = column;
                permute(columns, from + 1);
            }
        }
    }

    private static void permutedUnit(int[] columns) {
        int n = columns.length;
        int sign = 1;
        long[][] rows = new long[n][n + 1];
        for (int i = 0; i < n; i++) {
            rows[i][columns[i]] = 1;
            rows[i][n] = 10 + columns[i];
            for (int j = 0; j < i; j++) {
                sign = columns[j] > columns[i] ? -sign : sign;
            }
        }
        MinorSteps x = Load.matrix(1, rows);
        stepsUpTo(x, 2 * n, MinorSteps.DONE);
        Load.determinant(x, Load.big(sign));
        for (int i = 0; i < n; i++) {
            Load.numerator(x, i, Load.big(sign * (10 + i)));
            Load.pivot(x, i, ONE);
            Due.same("row(" + columns[i] + ")", x.row(columns[i]), i);
        }
        Due.same("holds()", x.holds(), true);
    }

    private static void noRoomAtEachPlace() {
        Due.sentence("numbers that it made before that one, row by row from the upper one on, stay");
        long half = 1L << 30;
        for (int i = 1; i < 3; i++) {
            for (int j = 1; j < 4; j++) {
                long[][] rows = {{2, 0, 0, 0}, {0, 1, 3, 5}, {0, 7, 9, 11}};
                rows[i][j] = -half;
                MinorSteps x = Load.matrix(1, rows);
                steps(x, MinorSteps.NO_ROOM, MinorSteps.NO_ROOM);
                Due.same("steps()", x.steps(), 1);
                for (int r = 1; r < 3; r++) {
                    for (int c = 1; c < 4; c++) {
                        boolean before = r < i || r == i && c < j;
                        rows[r][c] *= before ? 2 : 1;
                    }
                }
                Load.matrixIs("no room at " + i + ", " + j, x, rows);
            }
        }
    }

    private static void noRoomInALaterStep() {
        Due.sentence("that step ends all (it is counted");
        MinorSteps full = Load.matrix(1,
                new long[][] {{1, 0, 0, 0}, {0, 0, 3, 1 << 15}, {0, 1 << 16, 0, 4}});
        steps(full, MinorSteps.MORE, MinorSteps.NO_ROOM, MinorSteps.NO_ROOM);
        Due.same("steps()", full.steps(), 2);
        Due.same("status()", full.status(), MinorSteps.NO_ROOM);
        Due.same("row(1)", full.row(1), 2);
        Load.matrixIs("rows 1 and 2 changed places, 3 by 65536 is made", full,
                new long[][] {{1, 0, 0, 0}, {0, 1 << 16, 0, 4}, {0, 0, 3 << 16, 1 << 15}});
        Load.pivot(full, 1, Load.big(1 << 16));
        Load.pivot(full, 2, null);
    }

    private static void noRoomInAMiddleN() {
        Due.sentence("or N, has more limbs than there is room for");
        MinorSteps x = Load.matrix(1,
                new long[][] {{1, 0, 0, 1}, {0, 1, 0, -(1L << 30)}, {0, 0, 2, 3}});
        steps(x, MinorSteps.MORE, MinorSteps.MORE);
        Load.matrixIs("before", x,
                new long[][] {{1, 0, 0, 1}, {0, 1, 0, -(1L << 30)}, {0, 0, 2, 3}});
        steps(x, MinorSteps.MORE, MinorSteps.MORE, MinorSteps.NO_ROOM, MinorSteps.NO_ROOM);
        Due.same("steps()", x.steps(), 5);
        for (int j = 0; j < 3; j++) {
            Load.numerator(x, j, null);
        }
        Load.matrixIs("N does not count", x,
                new long[][] {{1, 0, 0, 1}, {0, 1, 0, -(1L << 30)}, {0, 0, 2, 3}});
    }

    private static void lastOf512Calls() {
        Due.sentence("An object is used for at most 512 calls");
        MinorSteps x = new MinorSteps(6, 16);
        int calls = 0;
        for (int i = 0; i < 6; i++) {
            for (int j = 0; j <= 6; j++) {
                x.entry(i, j, (i * j + i + j) % 3 == 0 ? -1 : 1);
                x.limb(HIGHEST - 7 * i * i - j);
                x.limb(3 + i * j * j);
                calls += 3;
            }
        }
        for (; calls < 500 - 1; calls++) {
            Due.same("entry of none such", x.entry(6, 0, 1), false);
        }
        stepsUpTo(x, 12, MinorSteps.DONE);
        calls += 12;
        Due.same("calls before the last one", calls, 511);
        Due.same("call 512 is holds()", x.holds(), true);
    }
}
