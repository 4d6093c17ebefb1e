import java.math.BigInteger;

/** The document's words over BigInteger, in the plainest form: what RandomRunsTest compares with. */
final class Model {
    final int n;
    final int room;
    BigInteger[][] matrix;
    BigInteger[][] loaded;
    BigInteger[] solved;
    int[] rows;
    int status;
    int steps;
    int pivots;
    int swaps;
    int chosenRow;
    int chosenColumn;
    int chosenSign;
    int chosenLimbs;

    Model(int rows, int limbs) {
        n = Math.min(6, Math.max(1, rows));
        room = Math.min(16, Math.max(1, limbs));
        reset();
    }

    void reset() {
        matrix = new BigInteger[n][n + 1];
        rows = new int[n];
        for (int i = 0; i < n; i++) {
            rows[i] = i;
            for (int j = 0; j <= n; j++) {
                matrix[i][j] = BigInteger.ZERO;
            }
        }
        solved = new BigInteger[n];
        status = MinorSteps.LOADING;
        steps = 0;
        pivots = 0;
        swaps = 0;
        chosenRow = -1;
    }

    boolean entry(int row, int column, int sign) {
        if (status != MinorSteps.LOADING || row < 0 || row >= n || column < 0 || column > n
                || Math.abs((long) sign) > 1) {
            return false;
        }
        chosenRow = row;
        chosenColumn = column;
        chosenSign = sign;
        chosenLimbs = 0;
        matrix[row][column] = BigInteger.ZERO;
        return true;
    }

    boolean limb(int word) {
        if (chosenRow < 0 || chosenSign == 0 || word < 0 || chosenLimbs == room) {
            return false;
        }
        BigInteger part = Load.big(chosenSign * (long) word).shiftLeft(31 * chosenLimbs);
        matrix[chosenRow][chosenColumn] = matrix[chosenRow][chosenColumn].add(part);
        chosenLimbs++;
        return true;
    }

    int step() {
        if (status != MinorSteps.LOADING && status != MinorSteps.MORE) {
            return status;
        }
        if (steps == 0) {
            chosenRow = -1;
            loaded = new BigInteger[n][];
            for (int i = 0; i < n; i++) {
                loaded[i] = matrix[i].clone();
            }
        }
        int k = steps++;
        status = k < n ? column(k) : back(2 * n - 1 - k);
        return status;
    }

    private int column(int k) {
        int found = k;
        while (found < n && matrix[found][k].signum() == 0) {
            found++;
        }
        if (found == n) {
            return MinorSteps.SINGULAR;
        }
        if (found != k) {
            BigInteger[] row = matrix[k];
            matrix[k] = matrix[found];
            matrix[found] = row;
            int number = rows[k];
            rows[k] = rows[found];
            rows[found] = number;
            swaps++;
        }
        pivots = k + 1;
        BigInteger before = k == 0 ? BigInteger.ONE : matrix[k - 1][k - 1];
        for (int i = k + 1; i < n; i++) {
            for (int j = k + 1; j <= n; j++) {
                BigInteger made = exact(matrix[k][k].multiply(matrix[i][j])
                        .subtract(matrix[i][k].multiply(matrix[k][j])), before);
                if (Load.limbs(made) > room) {
                    return MinorSteps.NO_ROOM;
                }
                matrix[i][j] = made;
            }
        }
        return MinorSteps.MORE;
    }

    private int back(int i) {
        BigInteger sum = matrix[n - 1][n - 1].multiply(matrix[i][n]);
        for (int j = i + 1; j < n; j++) {
            sum = sum.subtract(matrix[i][j].multiply(solved[j]));
        }
        solved[i] = exact(sum, matrix[i][i]);
        if (Load.limbs(solved[i]) > room) {
            return MinorSteps.NO_ROOM;
        }
        return i == 0 ? MinorSteps.DONE : MinorSteps.MORE;
    }

    private static BigInteger exact(BigInteger value, BigInteger by) {
        BigInteger[] parts = value.divideAndRemainder(by);
        if (parts[1].signum() != 0) {
            throw new IllegalStateException("a rest");
        }
        return parts[0];
    }

    BigInteger determinant() {
        if (status == MinorSteps.SINGULAR) {
            return BigInteger.ZERO;
        }
        return status == MinorSteps.DONE ? signed(matrix[n - 1][n - 1]) : null;
    }

    BigInteger numerator(int j) {
        return status == MinorSteps.DONE && j >= 0 && j < n ? signed(solved[j]) : null;
    }

    private BigInteger signed(BigInteger value) {
        return swaps % 2 == 0 ? value : value.negate();
    }

    BigInteger pivot(int k) {
        return k >= 0 && k < pivots ? matrix[k][k] : null;
    }

    BigInteger number(int row, int column) {
        return row >= 0 && row < n && column >= 0 && column <= n ? matrix[row][column] : null;
    }

    int row(int i) {
        return i >= 0 && i < n ? rows[i] : MinorSteps.BAD;
    }

    boolean holds() {
        if (status != MinorSteps.DONE) {
            return false;
        }
        for (BigInteger[] row : loaded) {
            BigInteger sum = BigInteger.ZERO;
            for (int j = 0; j < n; j++) {
                sum = sum.add(row[j].multiply(numerator(j)));
            }
            if (!sum.equals(row[n].multiply(determinant()))) {
                return false;
            }
        }
        return true;
    }
}
