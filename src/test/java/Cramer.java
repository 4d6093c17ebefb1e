import java.math.BigInteger;

/** Determinants by expansion along the first row: another way than the steps, to compare with. */
final class Cramer {
    private Cramer() {
    }

    /** Of the first columns, so many as there are rows. */
    static BigInteger determinant(BigInteger[][] rows) {
        if (rows.length == 0) {
            return BigInteger.ONE;
        }
        BigInteger sum = BigInteger.ZERO;
        for (int j = 0; j < rows.length; j++) {
            BigInteger part = rows[0][j].multiply(determinant(without(rows, j)));
            sum = j % 2 == 0 ? sum.add(part) : sum.subtract(part);
        }
        return sum;
    }

    /** The determinant with the right side in place of column j. */
    static BigInteger numerator(BigInteger[][] rows, int j) {
        BigInteger[][] replaced = new BigInteger[rows.length][];
        for (int i = 0; i < rows.length; i++) {
            replaced[i] = rows[i].clone();
            replaced[i][j] = rows[i][rows.length];
        }
        return determinant(replaced);
    }

    private static BigInteger[][] without(BigInteger[][] rows, int column) {
        BigInteger[][] rest = new BigInteger[rows.length - 1][rows.length - 1];
        for (int i = 1; i < rows.length; i++) {
            for (int j = 0, to = 0; j < rows.length; j++) {
                if (j != column) {
                    rest[i - 1][to++] = rows[i][j];
                }
            }
        }
        return rest;
    }
}
