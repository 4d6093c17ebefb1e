import java.math.BigInteger;

/** Each sentence of promises 1 to 13 that names an edge or refuses a call has a test here. */
public final class CallEdgesTest {
    private static final int HIGHEST = Integer.MAX_VALUE;
    private static final int LOWEST = Integer.MIN_VALUE;
    private static final BigInteger ZERO = BigInteger.ZERO;
    private static final BigInteger ONE = BigInteger.ONE;
    private static final int[] STATES = {MinorSteps.LOADING, MinorSteps.MORE, MinorSteps.DONE,
        MinorSteps.SINGULAR, MinorSteps.NO_ROOM};
    private static final int[] NOT_LOADING = {MinorSteps.MORE, MinorSteps.DONE,
        MinorSteps.SINGULAR, MinorSteps.NO_ROOM};
    private static final int[] NOT_DONE = {MinorSteps.LOADING, MinorSteps.MORE,
        MinorSteps.SINGULAR, MinorSteps.NO_ROOM};

    public static void main(String[] args) {
        rowsBroughtWithin();
        limbsBroughtWithin();
        allIsZeroWhenNew();
        allIsZeroAfterReset();
        resetBeginsAnew();
        entryChooses();
        entryWhenNotLoading();
        entryOfNoneSuch();
        refusedEntryKeepsTheChoice();
        limbWhenNoneIsChosen();
        limbWhenItsSignIsZero();
        limbBelowZero();
        limbWhenTheRoomIsFull();
        highestLimbsOfZero();
        stepTellsDoneBehindTheLast();
        stepWhenAllIsEnded();
        statusIsWhatStepTold();
        statusBeforeTheFirstStep();
        stepsAreCounted();
        stepsThatAreNotDone();
        determinantNotDone();
        determinantAskedBeyondIt();
        determinantOfASingularOne();
        numeratorNotDone();
        numeratorOfNoneSuch();
        numeratorThatIsZero();
        pivotNotMadeYet();
        pivotOfNoneSuch();
        pivotHasNoOtherSign();
        numberOfNoneSuch();
        numberAsItIsNow();
        rowOfNoneSuch();
        rowAsItWasLoaded();
        holdsNotDone();
        holdsOfRowsAsTheyWereLoaded();
        holdsWithTheRoomFull();
        Due.end();
    }

    private static void steps(MinorSteps x, int... due) {
        for (int told : due) {
            Due.same("step()", x.step(), told);
        }
    }

    /** An object of two rows and one limb, whose status is the one told. */
    private static MinorSteps in(int status) {
        switch (status) {
            case MinorSteps.LOADING:
                return Load.matrix(1, new long[][] {{0, 2, 4}, {3, 0, 9}});
            case MinorSteps.MORE: {
                MinorSteps x = in(MinorSteps.LOADING);
                steps(x, MinorSteps.MORE);
                return x;
            }
            case MinorSteps.DONE: {
                MinorSteps x = in(MinorSteps.MORE);
                steps(x, MinorSteps.MORE, MinorSteps.MORE, MinorSteps.DONE);
                return x;
            }
            case MinorSteps.SINGULAR: {
                MinorSteps x = Load.matrix(1, new long[][] {{1, 2, 3}, {2, 4, 7}});
                steps(x, MinorSteps.MORE, MinorSteps.SINGULAR);
                return x;
            }
            default: {
                MinorSteps x = Load.matrix(1, new long[][] {{0, 2, 4}, {HIGHEST, 0, 9}});
                steps(x, MinorSteps.NO_ROOM);
                return x;
            }
        }
    }

    /** Two rows and one limb; all steps have room but the last one. */
    private static MinorSteps withoutRoomForTheLastN() {
        MinorSteps x = Load.matrix(1, new long[][] {{1, 0, 1L << 30}, {0, 2, 1}});
        steps(x, MinorSteps.MORE, MinorSteps.MORE, MinorSteps.MORE, MinorSteps.NO_ROOM);
        return x;
    }

    /** All that an object of two rows and one limb tells, to see that a call changed nothing. */
    private static long[] allOf(MinorSteps x) {
        long[] all = new long[49];
        int at = 0;
        for (int what = -2; what < 2; what++) {
            all[at++] = x.determinant(what);
            for (int i = 0; i < 2; i++) {
                all[at++] = x.numerator(i, what);
                all[at++] = x.pivot(i, what);
                for (int j = 0; j < 3; j++) {
                    all[at++] = x.number(i, j, what);
                }
            }
        }
        all[at++] = x.row(0);
        all[at++] = x.row(1);
        all[at++] = x.status();
        all[at++] = x.steps();
        all[at++] = x.holds() ? 1 : 0;
        return all;
    }

    private static void unchanged(String when, MinorSteps x, long[] before) {
        long[] after = allOf(x);
        for (int i = 0; i < before.length; i++) {
            Due.same(when + ", answer " + i, after[i], before[i]);
        }
    }

    private static void rowsBroughtWithin() {
        Due.sentence("n is rows (1 .. 6, brought within)");
        int[][] cases = {{LOWEST, 1}, {-1, 1}, {0, 1}, {1, 1}, {2, 2}, {5, 5}, {6, 6}, {7, 6},
            {HIGHEST, 6}};
        for (int[] c : cases) {
            MinorSteps x = new MinorSteps(c[0], 1);
            Due.same(c[0] + " rows, the last one", x.row(c[1] - 1), c[1] - 1);
            Due.same(c[0] + " rows, none behind it", x.row(c[1]), MinorSteps.BAD);
            Due.same(c[0] + " rows, the right side", x.number(0, c[1], -2), 0);
            Due.same(c[0] + " rows, no column more", x.number(0, c[1] + 1, -2), MinorSteps.BAD);
        }
    }

    private static void limbsBroughtWithin() {
        Due.sentence("limbs the room (1 .. 16)");
        int[][] cases = {{LOWEST, 1}, {-1, 1}, {0, 1}, {1, 1}, {2, 2}, {15, 15}, {16, 16},
            {17, 16}, {HIGHEST, 16}};
        for (int[] c : cases) {
            MinorSteps x = new MinorSteps(1, c[0]);
            x.entry(0, 0, 1);
            int taken = 0;
            for (int i = 0; i < 20; i++) {
                taken += x.limb(1) ? 1 : 0;
            }
            Due.same("room for " + c[0], taken, c[1]);
        }
    }

    private static void isAllZero(MinorSteps x, int n) {
        for (int i = 0; i < n; i++) {
            for (int j = 0; j <= n; j++) {
                Load.number("all is 0", x, i, j, ZERO);
            }
            Due.same("row(" + i + ")", x.row(i), i);
            Load.pivot(x, i, null);
            Load.numerator(x, i, null);
        }
        Load.determinant(x, null);
        Due.same("status()", x.status(), MinorSteps.LOADING);
        Due.same("steps()", x.steps(), 0);
        Due.same("holds()", x.holds(), false);
        Due.same("limb(1), none is chosen", x.limb(1), false);
    }

    private static void allIsZeroWhenNew() {
        Due.sentence("MinorSteps: All is 0; loading");
        for (int n = 1; n <= 6; n++) {
            isAllZero(new MinorSteps(n, 16), n);
            steps(new MinorSteps(n, 16), MinorSteps.SINGULAR);
        }
    }

    private static void allIsZeroAfterReset() {
        Due.sentence("reset: All is 0; loading");
        MinorSteps fresh = new MinorSteps(2, 1);
        fresh.reset();
        isAllZero(fresh, 2);
        for (int state : STATES) {
            MinorSteps x = in(state);
            x.reset();
            isAllZero(x, 2);
            x.reset();
            isAllZero(x, 2);
            Due.same("entry after reset", x.entry(1, 2, 1), true);
        }
    }

    private static void resetBeginsAnew() {
        Due.sentence("reset: All is 0; loading");
        long[][] rows = {{2, 0, 4}, {0, 3, 9}};
        for (int state : STATES) {
            MinorSteps x = in(state);
            x.reset();
            for (int i = 0; i < 2; i++) {
                for (int j = 0; j < 3; j++) {
                    Load.number(x, i, j, Load.big(rows[i][j]));
                }
            }
            steps(x, MinorSteps.MORE, MinorSteps.MORE, MinorSteps.MORE, MinorSteps.DONE);
            MinorSteps fresh = Load.matrix(1, rows);
            steps(fresh, MinorSteps.MORE, MinorSteps.MORE, MinorSteps.MORE, MinorSteps.DONE);
            unchanged("after a reset as when new", x, allOf(fresh));
            Load.determinant(x, Load.big(6));
        }
    }

    private static void entryChooses() {
        Due.sentence("A number of the matrix is chosen: it is 0, with a sign");
        MinorSteps x = new MinorSteps(2, 2);
        for (int sign = -1; sign <= 1; sign++) {
            for (int i = 0; i < 2; i++) {
                for (int j = 0; j < 3; j++) {
                    Due.same("entry", x.entry(i, j, sign), true);
                    Load.number("it is 0 again", x, i, j, ZERO);
                    Due.same("limb", x.limb(1 + i), sign != 0);
                    Due.same("limb", x.limb(5 + j), sign != 0);
                    Load.number("with its sign", x, i, j, Load.big(5 + j).shiftLeft(31)
                            .add(Load.big(1 + i)).multiply(Load.big(sign)));
                }
            }
        }
    }

    private static void entryWhenNotLoading() {
        Due.sentence("entry: False: not loading");
        for (int state : NOT_LOADING) {
            MinorSteps x = in(state);
            long[] before = allOf(x);
            for (int sign = -1; sign <= 1; sign++) {
                for (int i = 0; i < 2; i++) {
                    for (int j = 0; j < 3; j++) {
                        Due.same("entry, status " + state, x.entry(i, j, sign), false);
                    }
                }
            }
            unchanged("entry, status " + state, x, before);
        }
    }

    private static void entryOfNoneSuch() {
        Due.sentence("entry: False: none such (0 .. n - 1, 0 .. n, - 1 .. 1)");
        for (int n = 1; n <= 6; n++) {
            MinorSteps x = new MinorSteps(n, 1);
            int[] rows = {LOWEST, -1, n, n + 1, HIGHEST};
            int[] columns = {LOWEST, -1, n + 1, n + 2, HIGHEST};
            int[] signs = {LOWEST, -2, 2, HIGHEST};
            for (int row : rows) {
                Due.same("row " + row, x.entry(row, 0, 1), false);
            }
            for (int column : columns) {
                Due.same("column " + column, x.entry(0, column, 1), false);
            }
            for (int sign : signs) {
                Due.same("sign " + sign, x.entry(0, 0, sign), false);
            }
            isAllZero(x, n);
            Due.same("the first", x.entry(0, 0, 0), true);
            Due.same("the last", x.entry(n - 1, n, -1), true);
        }
    }

    private static void refusedEntryKeepsTheChoice() {
        Due.sentence("entry: what was chosen stays chosen");
        MinorSteps x = new MinorSteps(2, 4);
        int[][] wrong = {{2, 0, 1}, {0, 3, 1}, {0, 0, 2}};
        x.entry(1, 0, -1);
        x.limb(7);
        for (int[] w : wrong) {
            Due.same("entry", x.entry(w[0], w[1], w[2]), false);
            Due.same("limb", x.limb(1), true);
        }
        Load.number("its sign and its limbs stay", x, 1, 0,
                Load.big(7).add(power(31)).add(power(62)).add(power(93)).negate());
        Load.number("the other one", x, 0, 0, ZERO);
        Due.same("the room is full", x.limb(1), false);
        x.entry(1, 1, 0);
        x.entry(0, 0, 2);
        Due.same("a sign of 0 stays", x.limb(1), false);
    }

    private static BigInteger power(int bits) {
        return ONE.shiftLeft(bits);
    }

    private static void limbWhenNoneIsChosen() {
        Due.sentence("limb: False: none is");
        Due.same("when new", new MinorSteps(6, 16).limb(1), false);
        MinorSteps refused = new MinorSteps(1, 1);
        refused.entry(1, 0, 1);
        Due.same("after a refused entry", refused.limb(1), false);
        for (int state : NOT_LOADING) {
            MinorSteps x = in(state);
            long[] before = allOf(x);
            Due.same("status " + state, x.limb(1), false);
            unchanged("limb, status " + state, x, before);
        }
        for (int state : STATES) {
            MinorSteps x = in(state);
            x.reset();
            Due.same("reset from status " + state, x.limb(1), false);
        }
        // A number with room left is chosen when the first step is done.
        MinorSteps chosen = new MinorSteps(1, 2);
        chosen.entry(0, 0, 1);
        chosen.limb(3);
        steps(chosen, MinorSteps.MORE);
        Due.same("after a step", chosen.limb(1), false);
        Load.number("it stays", chosen, 0, 0, Load.big(3));
    }

    private static void limbWhenItsSignIsZero() {
        Due.sentence("limb: False: its sign is 0");
        MinorSteps x = new MinorSteps(1, 2);
        x.entry(0, 1, 1);
        x.limb(4);
        x.entry(0, 0, 0);
        Due.same("limb(0)", x.limb(0), false);
        Due.same("limb(1)", x.limb(1), false);
        Load.number("it is 0", x, 0, 0, ZERO);
        Load.number("the one before it", x, 0, 1, Load.big(4));
    }

    private static void limbBelowZero() {
        Due.sentence("limb: False: a limb below 0");
        MinorSteps x = new MinorSteps(1, 2);
        x.entry(0, 0, -1);
        Due.same("limb(-1)", x.limb(-1), false);
        Due.same("limb(lowest)", x.limb(LOWEST), false);
        Load.number("it is 0", x, 0, 0, ZERO);
        Due.same("limb(9)", x.limb(9), true);
        Due.same("limb(-1)", x.limb(-1), false);
        Due.same("limb(8)", x.limb(8), true);
        Load.number("the refused ones took no place", x, 0, 0,
                Load.big(8).shiftLeft(31).add(Load.big(9)).negate());
    }

    private static void limbWhenTheRoomIsFull() {
        Due.sentence("limb: False: it has as many as there is room for");
        for (int room = 1; room <= 16; room++) {
            MinorSteps x = new MinorSteps(1, room);
            x.entry(0, 0, -1);
            for (int i = 0; i < room; i++) {
                Due.same("limb", x.limb(HIGHEST), true);
            }
            Due.same("one more", x.limb(1), false);
            Due.same("one more of 0", x.limb(0), false);
            Load.number("it is full", x, 0, 0, ONE.subtract(power(31 * room)));
            Load.number("the next one is untouched", x, 0, 1, ZERO);
            Due.same("entry", x.entry(0, 0, 1), true);
            Due.same("there is room again", x.limb(1), true);
        }
    }

    private static void highestLimbsOfZero() {
        Due.sentence("limb: The next higher limb of the number that is chosen");
        for (int room = 1; room <= 16; room++) {
            MinorSteps x = new MinorSteps(1, room);
            x.entry(0, 0, -1);
            for (int i = 0; i < room - 1; i++) {
                Due.same("limb(0)", x.limb(0), true);
                Load.number("it is still 0", x, 0, 0, ZERO);
            }
            Due.same("the last limb", x.limb(5), true);
            Load.number("5 above limbs of 0", x, 0, 0, Load.big(-5).shiftLeft(31 * (room - 1)));
            x.entry(0, 1, 1);
            for (int i = 0; i < room; i++) {
                Due.same("limb(0)", x.limb(0), true);
            }
            Due.same("limbs of 0 take room too", x.limb(1), false);
            Load.number("0 with a sign and limbs of 0 is 0", x, 0, 1, ZERO);
            Due.same("step()", x.step(), MinorSteps.MORE);
            Due.same("step()", x.step(), MinorSteps.DONE);
            Load.numerator(x, 0, ZERO);
        }
        MinorSteps zero = new MinorSteps(1, 2);
        zero.entry(0, 0, -1);
        zero.limb(0);
        steps(zero, MinorSteps.SINGULAR);
    }

    private static BigInteger[][] unit(int n) {
        BigInteger[][] rows = new BigInteger[n][n + 1];
        for (int i = 0; i < n; i++) {
            for (int j = 0; j <= n; j++) {
                rows[i][j] = i == j ? ONE : j == n ? Load.big(i - 2) : ZERO;
            }
        }
        return rows;
    }

    private static void stepTellsDoneBehindTheLast() {
        Due.sentence("step: MORE, or DONE behind the last one");
        for (int n = 1; n <= 6; n++) {
            MinorSteps x = Load.matrix(1, unit(n));
            for (int s = 0; s < 2 * n - 1; s++) {
                steps(x, MinorSteps.MORE);
            }
            steps(x, MinorSteps.DONE);
        }
    }

    private static void stepWhenAllIsEnded() {
        Due.sentence("step: When all is ended, that again");
        int[] ended = {MinorSteps.DONE, MinorSteps.SINGULAR, MinorSteps.NO_ROOM};
        for (int state : ended) {
            MinorSteps x = in(state);
            long[] before = allOf(x);
            steps(x, state, state, state);
            unchanged("step, status " + state, x, before);
        }
        MinorSteps last = withoutRoomForTheLastN();
        long[] before = allOf(last);
        steps(last, MinorSteps.NO_ROOM, MinorSteps.NO_ROOM);
        unchanged("step without room for N", last, before);
    }

    private static void statusIsWhatStepTold() {
        Due.sentence("What the last step() told");
        for (int state : STATES) {
            Due.same("status()", in(state).status(), state);
        }
        MinorSteps x = in(MinorSteps.LOADING);
        for (int s = 0; s < 6; s++) {
            int told = x.step();
            x.entry(0, 0, 1);
            x.limb(1);
            x.holds();
            Due.same("status()", x.status(), told);
        }
    }

    private static void statusBeforeTheFirstStep() {
        Due.sentence("LOADING before the first one");
        MinorSteps x = new MinorSteps(1, 1);
        Due.same("when new", x.status(), MinorSteps.LOADING);
        x.entry(0, 0, 1);
        Due.same("chosen", x.status(), MinorSteps.LOADING);
        x.limb(1);
        Due.same("with a limb", x.status(), MinorSteps.LOADING);
        x.entry(1, 1, 1);
        x.limb(-1);
        Due.same("after refused calls", x.status(), MinorSteps.LOADING);
        for (int state : STATES) {
            MinorSteps again = in(state);
            again.reset();
            Due.same("reset from " + state, again.status(), MinorSteps.LOADING);
        }
    }

    private static void stepsAreCounted() {
        Due.sentence("How many steps were done");
        for (int n = 1; n <= 6; n++) {
            MinorSteps x = Load.matrix(1, unit(n));
            for (int s = 0; s < 2 * n; s++) {
                Due.same("steps()", x.steps(), s);
                x.step();
            }
            Due.same("steps() at the end", x.steps(), 2 * n);
        }
        Due.same("no room in the matrix", in(MinorSteps.NO_ROOM).steps(), 1);
        Due.same("no room for the last N", withoutRoomForTheLastN().steps(), 4);
        // Said of NO ROOM alone; the step that tells SINGULAR is counted as well.
        Due.same("singular", in(MinorSteps.SINGULAR).steps(), 2);
    }

    private static void stepsThatAreNotDone() {
        Due.sentence("How many steps were done");
        for (int state : STATES) {
            MinorSteps x = in(state);
            int before = x.steps();
            x.entry(0, 0, 1);
            x.limb(1);
            x.holds();
            Due.same("other calls, status " + state, x.steps(), before);
            x.reset();
            Due.same("reset from " + state, x.steps(), 0);
        }
    }

    private static void determinantNotDone() {
        Due.sentence("determinant: BAD: not done");
        int[] notDone = {MinorSteps.LOADING, MinorSteps.MORE, MinorSteps.NO_ROOM};
        for (int state : notDone) {
            Load.determinant(in(state), null);
        }
        Load.determinant(withoutRoomForTheLastN(), null);
        MinorSteps x = in(MinorSteps.LOADING);
        for (int s = 0; s < 4; s++) {
            Load.determinant(x, null);
            x.step();
        }
        Load.determinant(x, Load.big(-6));
    }

    private static void determinantAskedBeyondIt() {
        Due.sentence("determinant: BAD: also for limbs that it has not");
        for (int limbs = 1; limbs <= 16; limbs++) {
            BigInteger value = ONE.subtract(power(31 * limbs));
            MinorSteps x = Load.matrix(16, new BigInteger[][] {{value, ONE}});
            steps(x, MinorSteps.MORE, MinorSteps.DONE);
            Load.determinant(x, value);
            Due.same("the last limb", x.determinant(limbs - 1), HIGHEST);
            Due.same("none behind it", x.determinant(limbs), MinorSteps.BAD);
            Due.same("the highest int", x.determinant(HIGHEST), MinorSteps.BAD);
            Due.same("below - 2", x.determinant(-3), MinorSteps.BAD);
            Due.same("the lowest int", x.determinant(LOWEST), MinorSteps.BAD);
        }
    }

    private static void determinantOfASingularOne() {
        Due.sentence("determinant: of a singular one the sign 0, and no limbs");
        for (int n = 1; n <= 6; n++) {
            MinorSteps x = new MinorSteps(n, 1);
            steps(x, MinorSteps.SINGULAR);
            Load.determinant(x, ZERO);
            Due.same("the highest int", x.determinant(HIGHEST), MinorSteps.BAD);
            Due.same("the lowest int", x.determinant(LOWEST), MinorSteps.BAD);
        }
        MinorSteps later = in(MinorSteps.SINGULAR);
        Load.determinant(later, ZERO);
        later.reset();
        Load.determinant(later, null);
    }

    private static void numeratorNotDone() {
        Due.sentence("numerator: BAD: not done");
        for (int state : NOT_DONE) {
            for (int j = 0; j < 2; j++) {
                Load.numerator(in(state), j, null);
            }
        }
        MinorSteps last = withoutRoomForTheLastN();
        Load.numerator(last, 0, null);
        Load.numerator(last, 1, null);
        // Solved, but done no more.
        MinorSteps again = in(MinorSteps.DONE);
        Load.numerator(again, 1, Load.big(-12));
        again.reset();
        Load.numerator(again, 1, null);
    }

    private static void numeratorOfNoneSuch() {
        Due.sentence("numerator: BAD: none such");
        for (int n = 1; n <= 6; n++) {
            MinorSteps x = Load.matrix(1, unit(n));
            for (int s = 0; s < 2 * n; s++) {
                x.step();
            }
            // Behind the last one lies no numerator, and not the determinant either.
            int[] wrong = {LOWEST, -1, n, n + 1, HIGHEST};
            for (int j : wrong) {
                Load.numerator(x, j, null);
            }
            Load.numerator(x, n - 1, Load.big(n - 3));
            Due.same("the highest int", x.numerator(0, HIGHEST), MinorSteps.BAD);
            Due.same("the lowest int", x.numerator(0, LOWEST), MinorSteps.BAD);
        }
    }

    private static void numeratorThatIsZero() {
        Due.sentence("numerator: The same of numerator j");
        MinorSteps x = Load.matrix(1, new long[][] {{0, 2, 0}, {3, 0, 0}});
        steps(x, MinorSteps.MORE, MinorSteps.MORE, MinorSteps.MORE, MinorSteps.DONE);
        Load.numerator(x, 0, ZERO);
        Load.numerator(x, 1, ZERO);
        Due.same("holds()", x.holds(), true);
    }

    private static void pivotNotMadeYet() {
        Due.sentence("pivot: BAD: it is not made yet");
        for (int n = 1; n <= 6; n++) {
            MinorSteps x = Load.matrix(1, unit(n));
            for (int s = 0; s <= 2 * n; s++) {
                for (int k = 0; k < n; k++) {
                    Load.pivot(x, k, k < s ? ONE : null);
                }
                x.step();
            }
            x.reset();
            Load.pivot(x, 0, null);
        }
        MinorSteps singular = in(MinorSteps.SINGULAR);
        Load.pivot(singular, 0, ONE);
        Load.pivot(singular, 1, null);
        MinorSteps full = in(MinorSteps.NO_ROOM);
        Load.pivot(full, 0, Load.big(HIGHEST));
        Load.pivot(full, 1, null);
    }

    private static void pivotOfNoneSuch() {
        Due.sentence("pivot: BAD: none such");
        for (int n = 1; n <= 6; n++) {
            MinorSteps x = Load.matrix(1, unit(n));
            for (int s = 0; s < 2 * n; s++) {
                x.step();
            }
            int[] wrong = {LOWEST, -1, n, n + 1, HIGHEST};
            for (int k : wrong) {
                Load.pivot(x, k, null);
            }
            Due.same("the highest int", x.pivot(0, HIGHEST), MinorSteps.BAD);
            Due.same("the lowest int", x.pivot(0, LOWEST), MinorSteps.BAD);
        }
    }

    private static void pivotHasNoOtherSign() {
        Due.sentence("pivot: as it was made (rows' places as they are then, no other sign)");
        MinorSteps x = in(MinorSteps.DONE);
        Load.determinant(x, Load.big(-6));
        Load.pivot(x, 0, Load.big(3));
        Load.pivot(x, 1, Load.big(6));
    }

    private static void numberOfNoneSuch() {
        Due.sentence("number: BAD: none such");
        int[][] wrong = {{LOWEST, 0}, {-1, 0}, {2, 0}, {HIGHEST, 0}, {0, LOWEST}, {0, -1}, {0, 3},
            {0, HIGHEST}, {1, 3}, {2, 2}};
        for (int state : STATES) {
            MinorSteps x = in(state);
            for (int[] w : wrong) {
                Load.number("status " + state, x, w[0], w[1], null);
            }
            Due.same("the highest int", x.number(0, 0, HIGHEST), MinorSteps.BAD);
            Due.same("the lowest int", x.number(0, 0, LOWEST), MinorSteps.BAD);
        }
    }

    private static void numberAsItIsNow() {
        Due.sentence("number: as it is now, N not counting");
        MinorSteps x = in(MinorSteps.LOADING);
        Load.matrixIs("loaded", x, new long[][] {{0, 2, 4}, {3, 0, 9}});
        for (int s = 0; s < 5; s++) {
            x.step();
            Load.matrixIs("step " + s, x, new long[][] {{3, 0, 9}, {0, 6, 12}});
        }
        Load.numerator(x, 0, Load.big(-18));
        Load.numerator(x, 1, Load.big(-12));
    }

    private static void rowOfNoneSuch() {
        Due.sentence("row: BAD: none such");
        for (int n = 1; n <= 6; n++) {
            MinorSteps x = new MinorSteps(n, 1);
            int[] wrong = {LOWEST, -1, n, n + 1, HIGHEST};
            for (int i : wrong) {
                Due.same("row(" + i + ")", x.row(i), MinorSteps.BAD);
            }
            Due.same("the last one", x.row(n - 1), n - 1);
        }
    }

    private static void rowAsItWasLoaded() {
        Due.sentence("row: Which row, as it was loaded, is in row i now");
        for (int state : STATES) {
            MinorSteps x = in(state);
            boolean changed = state != MinorSteps.LOADING && state != MinorSteps.SINGULAR;
            Due.same("row(0), status " + state, x.row(0), changed ? 1 : 0);
            Due.same("row(1), status " + state, x.row(1), changed ? 0 : 1);
        }
        // The last row comes first, and each other row goes down by one at a time.
        MinorSteps down = Load.matrix(1,
                new long[][] {{0, 0, 1, 1}, {0, 1, 0, 1}, {1, 0, 0, 1}});
        down.step();
        int[] due = {2, 1, 0};
        for (int i = 0; i < 3; i++) {
            Due.same("row(" + i + ")", down.row(i), due[i]);
        }
    }

    private static void holdsNotDone() {
        Due.sentence("holds: False: not done");
        for (int state : NOT_DONE) {
            Due.same("status " + state, in(state).holds(), false);
        }
        Due.same("without room for the last N", withoutRoomForTheLastN().holds(), false);
        // All is 0 would fit any numerators.
        MinorSteps again = in(MinorSteps.DONE);
        Due.same("done", again.holds(), true);
        again.reset();
        Due.same("reset", again.holds(), false);
    }

    private static void holdsOfRowsAsTheyWereLoaded() {
        Due.sentence("holds: for each row as it was loaded");
        for (int n = 1; n <= 6; n++) {
            BigInteger[][] rows = unit(n);
            for (int i = 0; i < n; i++) {
                for (int j = 0; j < n; j++) {
                    // From the lower left to the upper right: rows change places.
                    rows[i][j] = i + j < n - 1 ? ZERO : Load.big(2 + i - 3 * j);
                }
            }
            MinorSteps x = Load.matrix(4, rows);
            for (int s = 0; s < 2 * n; s++) {
                Due.same("before the end", x.holds(), false);
                x.step();
            }
            boolean done = x.status() == MinorSteps.DONE;
            Due.same("done unless singular", done, Cramer.determinant(rows).signum() != 0);
            Due.same("n = " + n, x.holds(), done);
            Due.same("again", x.holds(), done);
        }
    }

    private static void holdsWithTheRoomFull() {
        Due.sentence("holds: the sum of its numbers times numerators");
        BigInteger a = power(31 * 16).subtract(ONE);
        // 2 a times a less 2 a times a: sums beyond twice the room, on both sides.
        BigInteger[][] rows = new BigInteger[6][7];
        for (int i = 0; i < 6; i++) {
            for (int j = 0; j <= 6; j++) {
                rows[i][j] = i == j ? ONE : ZERO;
            }
            rows[i][6] = i % 2 == 0 ? a : a.negate();
        }
        rows[0][2] = a;
        rows[0][3] = a;
        rows[0][4] = a;
        rows[0][5] = a;
        MinorSteps x = Load.matrix(16, rows);
        for (int s = 0; s < 11; s++) {
            steps(x, MinorSteps.MORE);
        }
        steps(x, MinorSteps.DONE);
        Load.numerator(x, 0, a);
        Due.same("holds()", x.holds(), true);
    }
}
