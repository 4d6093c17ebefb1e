import java.math.BigInteger;

/** Each promise of the document by ordinary inputs, by the edges it names, and by wrong inputs. */
public final class PromisesTest {
    private static final int HIGHEST = Integer.MAX_VALUE;
    private static final int LOWEST = Integer.MIN_VALUE;

    public static void main(String[] args) {
        constants();
        newObject();
        reset();
        entry();
        limb();
        step();
        stepSingular();
        stepNoRoomInTheMatrix();
        stepNoRoomInN();
        status();
        steps();
        determinant();
        numerator();
        pivot();
        number();
        row();
        holds();
        divisors();
        Due.end();
    }

    private static void constants() {
        Due.same("BAD", MinorSteps.BAD, -1);
        Due.same("MORE", MinorSteps.MORE, 0);
        Due.same("DONE", MinorSteps.DONE, 1);
        Due.same("SINGULAR", MinorSteps.SINGULAR, 2);
        Due.same("NO_ROOM", MinorSteps.NO_ROOM, 3);
        Due.same("LOADING", MinorSteps.LOADING, 4);
    }

    private static void steps(MinorSteps x, int... due) {
        for (int told : due) {
            Due.same("step()", x.step(), told);
        }
    }

    private static void isNew(MinorSteps x, int n, int room) {
        Due.same("status()", x.status(), MinorSteps.LOADING);
        Due.same("steps()", x.steps(), 0);
        Due.same("holds()", x.holds(), false);
        Due.same("limb without a choice", x.limb(1), false);
        Load.determinant(x, null);
        Load.matrixIs("new", x, new long[n][n + 1]);
        for (int i = 0; i < n; i++) {
            Due.same("row(" + i + ")", x.row(i), i);
            Load.pivot(x, i, null);
            Load.numerator(x, i, null);
        }
        Due.same("row(n)", x.row(n), MinorSteps.BAD);
        Due.same("entry of the last number", x.entry(n - 1, n, 1), true);
        Due.same("entry behind the last row", x.entry(n, 0, 1), false);
        Due.same("entry behind the last column", x.entry(0, n + 1, 1), false);
        for (int i = 0; i < room; i++) {
            Due.same("limb within the room", x.limb(1), true);
        }
        Due.same("limb beyond the room", x.limb(1), false);
    }

    private static void newObject() {
        for (int n = 1; n <= 6; n++) {
            for (int room = 1; room <= 16; room++) {
                isNew(new MinorSteps(n, room), n, room);
            }
        }
        isNew(new MinorSteps(0, 0), 1, 1);
        isNew(new MinorSteps(-5, -5), 1, 1);
        isNew(new MinorSteps(7, 17), 6, 16);
        isNew(new MinorSteps(LOWEST, HIGHEST), 1, 16);
        isNew(new MinorSteps(HIGHEST, LOWEST), 6, 1);
    }

    private static void reset() {
        MinorSteps loading = Load.matrix(3, new long[][] {{1, 2, 3}, {4, 5, 6}});
        loading.reset();
        isNew(loading, 2, 3);
        MinorSteps between = Load.matrix(3, new long[][] {{0, 2, 3}, {4, 5, 6}});
        steps(between, MinorSteps.MORE);
        between.reset();
        isNew(between, 2, 3);
        MinorSteps done = Load.matrix(3, new long[][] {{0, 2, 3}, {4, 5, 6}});
        steps(done, MinorSteps.MORE, MinorSteps.MORE, MinorSteps.MORE, MinorSteps.DONE);
        done.reset();
        isNew(done, 2, 3);
        // The odd swap of the first run is forgotten.
        done.reset();
        loadAgain(done, new long[][] {{2, 0, 4}, {0, 3, 9}});
        steps(done, MinorSteps.MORE, MinorSteps.MORE, MinorSteps.MORE, MinorSteps.DONE);
        Load.determinant(done, Load.big(6));
        Load.numerator(done, 0, Load.big(12));
        Load.numerator(done, 1, Load.big(18));
        Due.same("holds()", done.holds(), true);
        MinorSteps singular = new MinorSteps(2, 2);
        steps(singular, MinorSteps.SINGULAR);
        singular.reset();
        isNew(singular, 2, 2);
        MinorSteps full = Load.matrix(1, new long[][] {{HIGHEST, 2, 1}, {1, HIGHEST, 1}});
        steps(full, MinorSteps.NO_ROOM);
        full.reset();
        isNew(full, 2, 1);
    }

    private static void loadAgain(MinorSteps x, long[][] values) {
        for (int i = 0; i < values.length; i++) {
            for (int j = 0; j < values[i].length; j++) {
                Load.number(x, i, j, Load.big(values[i][j]));
            }
        }
    }

    private static void entry() {
        MinorSteps x = new MinorSteps(3, 2);
        Due.same("entry(2, 3, -1)", x.entry(2, 3, -1), true);
        Load.number("chosen without a limb", x, 2, 3, BigInteger.ZERO);
        Due.same("limb(7)", x.limb(7), true);
        int[][] wrong = {{-1, 0, 1}, {3, 0, 1}, {0, -1, 1}, {0, 4, 1}, {0, 0, 2}, {0, 0, -2},
            {LOWEST, 0, 1}, {HIGHEST, 0, 1}, {0, LOWEST, 1}, {0, HIGHEST, 1}, {0, 0, LOWEST},
            {0, 0, HIGHEST}, {2, 3, 2}};
        for (int[] w : wrong) {
            Due.same("entry of none such", x.entry(w[0], w[1], w[2]), false);
        }
        Load.number("a wrong entry leaves it", x, 2, 3, Load.big(-7));
        Due.same("limb(1): it stays chosen", x.limb(1), true);
        Load.number("with two limbs", x, 2, 3, Load.BASE.add(Load.big(7)).negate());
        Due.same("entry(2, 3, 1)", x.entry(2, 3, 1), true);
        Load.number("chosen again, it is 0", x, 2, 3, BigInteger.ZERO);
        Due.same("limb(5)", x.limb(5), true);
        Load.number("and takes limbs from the lowest on", x, 2, 3, Load.big(5));
        Due.same("entry(2, 3, 0)", x.entry(2, 3, 0), true);
        Load.number("chosen with sign 0", x, 2, 3, BigInteger.ZERO);
        for (int i = 0; i < 3; i++) {
            for (int j = 0; j <= 3; j++) {
                Due.same("entry", x.entry(i, j, 1), true);
                Due.same("limb", x.limb(10 * i + j + 1), true);
            }
        }
        Load.matrixIs("loaded", x, new long[][] {{1, 2, 3, 4}, {11, 12, 13, 14}, {21, 22, 23, 24}});
        x.step();
        Due.same("entry after a step", x.entry(0, 0, 1), false);
        Load.number("it stays as it was", x, 0, 0, Load.big(1));
        MinorSteps singular = new MinorSteps(1, 1);
        singular.step();
        Due.same("entry when singular", singular.entry(0, 0, 1), false);
    }

    private static void limb() {
        MinorSteps x = new MinorSteps(2, 3);
        Due.same("none is chosen", x.limb(1), false);
        x.entry(9, 9, 1);
        Due.same("still none is chosen", x.limb(1), false);
        x.entry(0, 0, 0);
        Due.same("its sign is 0", x.limb(1), false);
        x.entry(0, 0, -1);
        Due.same("a limb below 0", x.limb(-1), false);
        Due.same("the lowest int", x.limb(LOWEST), false);
        Due.same("limb(0)", x.limb(0), true);
        Load.number("a limb of 0 is 0", x, 0, 0, BigInteger.ZERO);
        Due.same("the highest limb", x.limb(HIGHEST), true);
        Load.number("two limbs", x, 0, 0, Load.big(HIGHEST).shiftLeft(31).negate());
        Due.same("limb(0)", x.limb(0), true);
        Load.number("a highest limb of 0", x, 0, 0, Load.big(HIGHEST).shiftLeft(31).negate());
        Due.same("the room is full", x.limb(1), false);
        Due.same("the room is full for 0 too", x.limb(0), false);
        x.entry(0, 1, 1);
        Due.same("limb(4)", x.limb(4), true);
        Load.number("the next number", x, 0, 1, Load.big(4));
        Load.number("the one before it", x, 0, 0, Load.big(HIGHEST).shiftLeft(31).negate());
        x.step();
        Due.same("none is chosen after a step", x.limb(1), false);
        x.reset();
        Due.same("none is chosen after a reset", x.limb(1), false);
        MinorSteps zeros = new MinorSteps(1, 3);
        zeros.entry(0, 0, 1);
        zeros.limb(0);
        zeros.limb(0);
        Due.same("the third limb", zeros.limb(9), true);
        Load.number("zeros below it count", zeros, 0, 0, Load.big(9).shiftLeft(62));
        x.reset();
        x.entry(1, 1, 1);
        x.reset();
        Due.same("a choice is gone with a reset", x.limb(1), false);
    }

    /** 2 x + y - z = 8, - 3 x - y + 2 z = - 11, - 2 x + y + 2 z = - 3: x = 2, y = 3, z = - 1. */
    private static final long[][] THREE = {{2, 1, -1, 8}, {-3, -1, 2, -11}, {-2, 1, 2, -3}};

    private static void step() {
        MinorSteps x = Load.matrix(2, THREE);
        steps(x, MinorSteps.MORE);
        Load.matrixIs("step 0", x, new long[][] {{2, 1, -1, 8}, {-3, 1, 1, 2}, {-2, 4, 2, 10}});
        steps(x, MinorSteps.MORE);
        Load.matrixIs("step 1", x, new long[][] {{2, 1, -1, 8}, {-3, 1, 1, 2}, {-2, 4, -1, 1}});
        steps(x, MinorSteps.MORE, MinorSteps.MORE, MinorSteps.MORE, MinorSteps.DONE);
        Load.matrixIs("done", x, new long[][] {{2, 1, -1, 8}, {-3, 1, 1, 2}, {-2, 4, -1, 1}});
        steps(x, MinorSteps.DONE, MinorSteps.DONE);
        Due.same("steps()", x.steps(), 6);
        MinorSteps one = Load.matrix(1, new long[][] {{-3, 12}});
        steps(one, MinorSteps.MORE, MinorSteps.DONE, MinorSteps.DONE);
        Load.determinant(one, Load.big(-3));
        Load.numerator(one, 0, Load.big(12));
        for (int n = 1; n <= 6; n++) {
            long[][] unit = new long[n][n + 1];
            for (int i = 0; i < n; i++) {
                unit[i][i] = 1;
                unit[i][n] = i;
            }
            MinorSteps units = Load.matrix(1, unit);
            for (int s = 0; s < 2 * n - 1; s++) {
                steps(units, MinorSteps.MORE);
            }
            steps(units, MinorSteps.DONE);
            for (int j = 0; j < n; j++) {
                Load.numerator(units, j, Load.big(j));
            }
        }
    }

    private static void stepSingular() {
        MinorSteps x = Load.matrix(2, new long[][] {{1, 2, 3}, {2, 4, 7}});
        steps(x, MinorSteps.MORE, MinorSteps.SINGULAR, MinorSteps.SINGULAR);
        Load.determinant(x, BigInteger.ZERO);
        Load.matrixIs("singular", x, new long[][] {{1, 2, 3}, {2, 0, 1}});
        MinorSteps first = Load.matrix(2, new long[][] {{0, 2, 3}, {0, 4, 7}});
        steps(first, MinorSteps.SINGULAR, MinorSteps.SINGULAR);
        Due.same("row(0)", first.row(0), 0);
        MinorSteps one = Load.matrix(1, new long[][] {{0, 5}});
        steps(one, MinorSteps.SINGULAR);
        // Rows change places before the last column is found to be 0.
        MinorSteps swapped = Load.matrix(2,
                new long[][] {{0, 1, 1, 1}, {1, 0, 1, 1}, {1, 1, 2, 1}});
        steps(swapped, MinorSteps.MORE, MinorSteps.MORE, MinorSteps.SINGULAR);
        Due.same("row(0)", swapped.row(0), 1);
        Load.pivot(swapped, 1, Load.big(1));
        Load.pivot(swapped, 2, null);
    }

    private static void stepNoRoomInTheMatrix() {
        long half = 1L << 30;
        long[][] values = {{0, 1, half - 1, 1}, {2, 3, 5, 7}, {4, 6, 2, -half}};
        MinorSteps x = Load.matrix(1, values);
        steps(x, MinorSteps.NO_ROOM, MinorSteps.NO_ROOM);
        Due.same("steps()", x.steps(), 1);
        // Rows 0 and 1 change places; 2 (half - 1) has room; in row 2, 0 and 4 - 20 are made, and
        // then - 2 half - 28 is the first number without room.
        Load.matrixIs("no room", x,
                new long[][] {{2, 3, 5, 7}, {0, 2, 2 * half - 2, 2}, {4, 0, -16, -half}});
        Load.pivot(x, 0, Load.big(2));
        Load.pivot(x, 1, null);
        Due.same("row(0)", x.row(0), 1);
        Due.same("row(1)", x.row(1), 0);
        Load.determinant(x, null);
        Load.numerator(x, 0, null);
        Due.same("holds()", x.holds(), false);
        // What is too long only before it is divided has room.
        MinorSteps fits = Load.matrix(1,
                new long[][] {{60000, 0, 0, 1}, {0, 30000, 0, 1}, {0, 0, 1, 0}});
        steps(fits, MinorSteps.MORE, MinorSteps.MORE);
        Load.number("divided", fits, 2, 2, Load.big(1800000000));
    }

    private static void stepNoRoomInN() {
        MinorSteps x = Load.matrix(1, new long[][] {{3, 0, 1000000000}, {0, 5, 7}});
        steps(x, MinorSteps.MORE, MinorSteps.MORE, MinorSteps.MORE, MinorSteps.NO_ROOM,
                MinorSteps.NO_ROOM);
        Due.same("steps()", x.steps(), 4);
        Load.determinant(x, null);
        Load.numerator(x, 1, null);
        Load.pivot(x, 1, Load.big(15));
        Due.same("holds()", x.holds(), false);
        // N 1 is 3 times 715827882, just below the base.
        MinorSteps fits = Load.matrix(1, new long[][] {{3, 0, 1}, {0, 1, 715827882}});
        steps(fits, MinorSteps.MORE, MinorSteps.MORE, MinorSteps.MORE, MinorSteps.DONE);
        Load.numerator(fits, 1, Load.big(2147483646));
        MinorSteps base = Load.matrix(1, new long[][] {{2, 0, 1}, {0, 1, 1L << 30}});
        steps(base, MinorSteps.NO_ROOM);
    }

    private static void status() {
        MinorSteps x = Load.matrix(1, new long[][] {{2, 0, 1}, {0, 1, 2}});
        Due.same("status()", x.status(), MinorSteps.LOADING);
        for (int s = 0; s < 3; s++) {
            x.step();
            Due.same("status()", x.status(), MinorSteps.MORE);
        }
        x.step();
        Due.same("status()", x.status(), MinorSteps.DONE);
        x.entry(0, 0, 1);
        x.limb(1);
        x.step();
        Due.same("status()", x.status(), MinorSteps.DONE);
        x.reset();
        Due.same("status()", x.status(), MinorSteps.LOADING);
        x.step();
        Due.same("status()", x.status(), MinorSteps.SINGULAR);
        MinorSteps full = Load.matrix(1, new long[][] {{HIGHEST, 2, 1}, {1, HIGHEST, 1}});
        full.step();
        Due.same("status()", full.status(), MinorSteps.NO_ROOM);
    }

    private static void steps() {
        MinorSteps x = Load.matrix(2, THREE);
        for (int s = 0; s < 6; s++) {
            Due.same("steps()", x.steps(), s);
            x.step();
        }
        Due.same("steps()", x.steps(), 6);
        x.step();
        Due.same("steps() when all is ended", x.steps(), 6);
        x.reset();
        Due.same("steps()", x.steps(), 0);
        MinorSteps full = Load.matrix(1, new long[][] {{HIGHEST, 2, 1}, {1, HIGHEST, 1}});
        full.step();
        full.step();
        Due.same("the step without room is counted", full.steps(), 1);
        // The document does not say it for SINGULAR: a step that tells it is a step that was done.
        MinorSteps singular = Load.matrix(2, new long[][] {{1, 2, 3}, {2, 4, 7}});
        steps(singular, MinorSteps.MORE, MinorSteps.SINGULAR, MinorSteps.SINGULAR);
        Due.same("the singular step is counted", singular.steps(), 2);
    }

    private static void determinant() {
        MinorSteps x = Load.matrix(2, THREE);
        for (int s = 0; s < 6; s++) {
            Load.determinant(x, null);
            x.step();
        }
        Load.determinant(x, Load.big(-1));
        Due.same("determinant", x.determinant(HIGHEST), MinorSteps.BAD);
        Due.same("determinant", x.determinant(LOWEST), MinorSteps.BAD);
        MinorSteps odd = Load.matrix(2, new long[][] {{0, 2, 4}, {3, 0, 9}});
        steps(odd, 0, 0, 0, 1);
        Load.determinant(odd, Load.big(-6));
        MinorSteps even = Load.matrix(2, new long[][] {{0, 2, 0, 4}, {0, 0, 5, 5}, {3, 0, 0, 9}});
        steps(even, 0, 0, 0, 0, 0, 1);
        Load.determinant(even, Load.big(30));
        MinorSteps singular = new MinorSteps(6, 16);
        singular.step();
        Load.determinant(singular, BigInteger.ZERO);
        Due.same("determinant", singular.determinant(HIGHEST), MinorSteps.BAD);
        Due.same("determinant", singular.determinant(LOWEST), MinorSteps.BAD);
    }

    private static void numerator() {
        MinorSteps x = Load.matrix(2, THREE);
        for (int s = 0; s < 6; s++) {
            Load.numerator(x, s % 3, null);
            x.step();
        }
        Load.numerator(x, 0, Load.big(-2));
        Load.numerator(x, 1, Load.big(-3));
        Load.numerator(x, 2, Load.big(1));
        int[] wrong = {-1, 3, 4, HIGHEST, LOWEST};
        for (int j : wrong) {
            Load.numerator(x, j, null);
        }
        Due.same("numerator", x.numerator(0, HIGHEST), MinorSteps.BAD);
        Due.same("numerator", x.numerator(0, LOWEST), MinorSteps.BAD);
        MinorSteps odd = Load.matrix(2, new long[][] {{0, 2, 4}, {3, 0, 0}});
        steps(odd, 0, 0, 0, 1);
        Load.numerator(odd, 0, BigInteger.ZERO);
        Load.numerator(odd, 1, Load.big(-12));
        MinorSteps singular = new MinorSteps(2, 1);
        singular.step();
        Load.numerator(singular, 0, null);
    }

    private static void pivot() {
        MinorSteps x = Load.matrix(2, new long[][] {{0, 2, 4}, {3, 0, 9}});
        Load.pivot(x, 0, null);
        x.step();
        Load.pivot(x, 0, Load.big(3));
        Load.pivot(x, 1, null);
        x.step();
        Load.pivot(x, 1, Load.big(6));
        x.step();
        x.step();
        Load.determinant(x, Load.big(-6));
        Load.pivot(x, 0, Load.big(3));
        Load.pivot(x, 1, Load.big(6));
        int[] wrong = {-1, 2, 3, HIGHEST, LOWEST};
        for (int k : wrong) {
            Load.pivot(x, k, null);
        }
        Due.same("pivot", x.pivot(0, HIGHEST), MinorSteps.BAD);
        Due.same("pivot", x.pivot(0, LOWEST), MinorSteps.BAD);
        MinorSteps full = Load.matrix(1, new long[][] {{HIGHEST, 2, 1}, {1, HIGHEST, 1}});
        full.step();
        Load.pivot(full, 0, Load.big(HIGHEST));
        MinorSteps singular = new MinorSteps(2, 1);
        singular.step();
        Load.pivot(singular, 0, null);
    }

    private static void number() {
        MinorSteps x = Load.matrix(2, new long[][] {{0, 2, 4}, {3, 0, 9}});
        Load.matrixIs("loaded", x, new long[][] {{0, 2, 4}, {3, 0, 9}});
        x.step();
        Load.matrixIs("step 0", x, new long[][] {{3, 0, 9}, {0, 6, 12}});
        x.step();
        x.step();
        x.step();
        Load.matrixIs("done", x, new long[][] {{3, 0, 9}, {0, 6, 12}});
        int[][] wrong = {{-1, 0}, {2, 0}, {0, -1}, {0, 3}, {HIGHEST, 0}, {LOWEST, 0}, {0, HIGHEST},
            {0, LOWEST}};
        for (int[] w : wrong) {
            Load.number("none such", x, w[0], w[1], null);
        }
        Due.same("number", x.number(0, 0, HIGHEST), MinorSteps.BAD);
        Due.same("number", x.number(0, 0, LOWEST), MinorSteps.BAD);
    }

    private static void row() {
        MinorSteps x = Load.matrix(2, new long[][] {{0, 2, 0, 4}, {0, 0, 5, 5}, {3, 0, 0, 9}});
        rowsAre(x, 0, 1, 2);
        x.step();
        rowsAre(x, 2, 1, 0);
        x.step();
        rowsAre(x, 2, 0, 1);
        while (x.step() == MinorSteps.MORE) {
            rowsAre(x, 2, 0, 1);
        }
        rowsAre(x, 2, 0, 1);
        int[] wrong = {-1, 3, HIGHEST, LOWEST};
        for (int i : wrong) {
            Due.same("row of none such", x.row(i), MinorSteps.BAD);
        }
        x.reset();
        rowsAre(x, 0, 1, 2);
    }

    private static void rowsAre(MinorSteps x, int... due) {
        for (int i = 0; i < due.length; i++) {
            Due.same("row(" + i + ")", x.row(i), due[i]);
        }
    }

    private static void holds() {
        MinorSteps x = Load.matrix(2, THREE);
        for (int s = 0; s < 6; s++) {
            Due.same("holds() before the end", x.holds(), false);
            x.step();
        }
        Due.same("holds()", x.holds(), true);
        Due.same("holds() again", x.holds(), true);
        Load.numerator(x, 0, Load.big(-2));
        MinorSteps swapped = Load.matrix(2,
                new long[][] {{0, 2, 0, 4}, {0, 0, 5, 5}, {3, 0, 0, 9}});
        steps(swapped, 0, 0, 0, 0, 0, 1);
        Due.same("holds() with rows in other places", swapped.holds(), true);
        swapped.reset();
        Due.same("holds() after a reset", swapped.holds(), false);
        swapped.step();
        Due.same("holds() when singular", swapped.holds(), false);
    }

    /** Divisors with zeros in their lowest limbs and bits, and with all bits set. */
    private static void divisors() {
        BigInteger[] kinds = {BigInteger.ONE.shiftLeft(31), BigInteger.ONE.shiftLeft(30),
            Load.big(6).shiftLeft(62), Load.BASE.pow(3).subtract(BigInteger.ONE),
            BigInteger.ONE.shiftLeft(92), Load.BASE.pow(2).add(Load.BASE), Load.big(HIGHEST)};
        for (BigInteger a : kinds) {
            for (BigInteger b : kinds) {
                BigInteger[][] rows = {{a, b, Load.big(1), Load.big(-2)},
                    {b.negate(), a, a, b}, {Load.big(3), b, a.negate(), a}};
                MinorSteps x = Load.matrix(16, rows);
                steps(x, 0, 0, 0, 0, 0, 1);
                Load.determinant(x, Cramer.determinant(rows));
                for (int j = 0; j < 3; j++) {
                    Load.numerator(x, j, Cramer.numerator(rows, j));
                }
                Due.same("holds()", x.holds(), true);
            }
        }
    }
}
