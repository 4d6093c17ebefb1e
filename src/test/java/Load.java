import java.math.BigInteger;

/** Loads whole numbers into a MinorSteps limb by limb, and compares numbers that it tells. */
final class Load {
    static final BigInteger BASE = BigInteger.ONE.shiftLeft(31);

    private Load() {
    }

    static BigInteger big(long value) {
        return BigInteger.valueOf(value);
    }

    static int limbs(BigInteger value) {
        return (value.abs().bitLength() + 30) / 31;
    }

    static int limb(BigInteger value, int place) {
        return value.abs().shiftRight(31 * place).mod(BASE).intValue();
    }

    static void number(MinorSteps x, int row, int column, BigInteger value) {
        Due.same("entry", x.entry(row, column, value.signum()), true);
        for (int place = 0; place < limbs(value); place++) {
            Due.same("limb", x.limb(limb(value, place)), true);
        }
    }

    static MinorSteps matrix(int room, BigInteger[][] rows) {
        MinorSteps x = new MinorSteps(rows.length, room);
        for (int i = 0; i < rows.length; i++) {
            for (int j = 0; j < rows[i].length; j++) {
                number(x, i, j, rows[i][j]);
            }
        }
        return x;
    }

    static BigInteger[][] rows(long[][] values) {
        BigInteger[][] rows = new BigInteger[values.length][];
        for (int i = 0; i < values.length; i++) {
            rows[i] = new BigInteger[values[i].length];
            for (int j = 0; j < values[i].length; j++) {
                rows[i][j] = big(values[i][j]);
            }
        }
        return rows;
    }

    static MinorSteps matrix(int room, long[][] values) {
        return matrix(room, rows(values));
    }

    /** What a number of this value answers, when it is asked for what; null has none. */
    static int told(BigInteger value, int what) {
        if (value == null || what < -2 || what >= limbs(value)) {
            return MinorSteps.BAD;
        }
        return what == -2 ? value.signum() : what == -1 ? limbs(value) : limb(value, what);
    }

    static void determinant(MinorSteps x, BigInteger value) {
        for (int what = -4; what < 18; what++) {
            Due.same("determinant(" + what + ")", x.determinant(what), told(value, what));
        }
    }

    static void numerator(MinorSteps x, int j, BigInteger value) {
        for (int what = -4; what < 18; what++) {
            Due.same("numerator(" + j + ", " + what + ")", x.numerator(j, what), told(value, what));
        }
    }

    static void pivot(MinorSteps x, int k, BigInteger value) {
        for (int what = -4; what < 18; what++) {
            Due.same("pivot(" + k + ", " + what + ")", x.pivot(k, what), told(value, what));
        }
    }

    static void number(String when, MinorSteps x, int row, int column, BigInteger value) {
        for (int what = -4; what < 18; what++) {
            Due.same(when + ": number(" + row + ", " + column + ", " + what + ")",
                    x.number(row, column, what), told(value, what));
        }
    }

    static void matrixIs(String when, MinorSteps x, long[][] values) {
        for (int i = 0; i < values.length; i++) {
            for (int j = 0; j < values[i].length; j++) {
                number(when, x, i, j, big(values[i][j]));
            }
        }
    }
}
