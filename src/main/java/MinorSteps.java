import java.util.Arrays;

/**
 * Equations with whole numbers of any size, solved step by step without fractions: each number on
 * the way is a minor of the matrix, divided out exactly; in the end the determinant, and what each
 * unknown times it is.
 */
public final class MinorSteps {
    public static final int BAD = -1, MORE = 0, DONE = 1, SINGULAR = 2, NO_ROOM = 3, LOADING = 4;

    private static final int MOST_ROWS = 6;
    private static final int MOST_LIMBS = 16;
    private static final int NONE = -1;
    private static final int ASK_SIGN = -2;
    private static final int ASK_LENGTH = -1;
    private static final int LIMB_BITS = 31;
    private static final int LIMB_MASK = 2147483647;

    private final int n;
    private final int room;
    /** Numbers lie by their row as it was loaded; rows change places in rowAt alone. */
    private final Numbers matrix;
    private final Numbers loaded;
    /** The numerators 0 .. n - 1, and behind them the determinant. */
    private final Numbers outcome;
    private final Sum sum;
    private final int[] rowAt;

    private int told;
    private int stepsDone;
    private int pivotsMade;
    private boolean oddSwaps;
    private int chosen;
    private int chosenSign;
    private int chosenLimbs;

    public MinorSteps(int rows, int limbs) {
        n = within(rows, MOST_ROWS);
        room = within(limbs, MOST_LIMBS);
        matrix = new Numbers(n * (n + 1), room);
        loaded = new Numbers(n * (n + 1), room);
        outcome = new Numbers(n + 1, room);
        sum = new Sum(room);
        rowAt = new int[n];
        startLoading();
    }

    public void reset() {
        startLoading();
    }

    public boolean entry(int row, int column, int sign) {
        if (told != LOADING || !isPlace(row, column) || sign < -1 || sign > 1) {
            return false;
        }
        chosen = slotAt(row, column);
        chosenSign = sign;
        chosenLimbs = 0;
        matrix.clear(chosen);
        return true;
    }

    public boolean limb(int word) {
        if (chosen == NONE || chosenSign == 0 || word < 0 || chosenLimbs >= room) {
            return false;
        }
        matrix.putLimb(chosen, chosenLimbs, word, chosenSign);
        chosenLimbs++;
        return true;
    }

    public int step() {
        if (isEnded()) {
            return told;
        }
        if (told == LOADING) {
            endLoading();
        }
        int current = stepsDone;
        stepsDone++;
        told = current < n ? eliminateColumn(current) : solveRow(2 * n - 1 - current);
        return told;
    }

    public int status() {
        return told;
    }

    public int steps() {
        return stepsDone;
    }

    public int determinant(int what) {
        if (told == SINGULAR) {
            return what == ASK_SIGN || what == ASK_LENGTH ? 0 : BAD;
        }
        return told == DONE ? outcome.tell(n, what) : BAD;
    }

    public int numerator(int j, int what) {
        return told == DONE && j >= 0 && j < n ? outcome.tell(j, what) : BAD;
    }

    public int pivot(int k, int what) {
        // No step after step k changes row k, so the pivot is still in its place.
        return k >= 0 && k < pivotsMade ? matrix.tell(slotAt(k, k), what) : BAD;
    }

    public int number(int row, int column, int what) {
        return isPlace(row, column) ? matrix.tell(slotAt(row, column), what) : BAD;
    }

    public int row(int i) {
        return i >= 0 && i < n ? rowAt[i] : BAD;
    }

    public boolean holds() {
        if (told != DONE) {
            return false;
        }
        for (int i = 0; i < n; i++) {
            if (!equationHolds(i)) {
                return false;
            }
        }
        return true;
    }

    private static int within(int value, int most) {
        return Math.max(1, Math.min(value, most));
    }

    private void startLoading() {
        matrix.clearAll();
        for (int i = 0; i < n; i++) {
            rowAt[i] = i;
        }
        told = LOADING;
        stepsDone = 0;
        pivotsMade = 0;
        oddSwaps = false;
        chosen = NONE;
        chosenSign = 0;
        chosenLimbs = 0;
    }

    private void endLoading() {
        chosen = NONE;
        for (int slot = 0; slot < n * (n + 1); slot++) {
            loaded.copy(slot, matrix, slot);
        }
    }

    private boolean isEnded() {
        return told == DONE || told == SINGULAR || told == NO_ROOM;
    }

    private boolean isPlace(int row, int column) {
        return row >= 0 && row < n && column >= 0 && column <= n;
    }

    private int slotAt(int row, int column) {
        return rowAt[row] * (n + 1) + column;
    }

    private int eliminateColumn(int k) {
        int found = findPivotRow(k);
        if (found == NONE) {
            return SINGULAR;
        }
        if (found != k) {
            swapRows(k, found);
        }
        pivotsMade = k + 1;
        for (int i = k + 1; i < n; i++) {
            for (int j = k + 1; j <= n; j++) {
                if (!makeMinor(k, i, j)) {
                    return NO_ROOM;
                }
            }
        }
        return MORE;
    }

    private int findPivotRow(int k) {
        for (int i = k; i < n; i++) {
            if (matrix.signOf(slotAt(i, k)) != 0) {
                return i;
            }
        }
        return NONE;
    }

    private void swapRows(int upper, int lower) {
        int kept = rowAt[upper];
        rowAt[upper] = rowAt[lower];
        rowAt[lower] = kept;
        oddSwaps = !oddSwaps;
    }

    private boolean makeMinor(int k, int i, int j) {
        sum.clear();
        sum.addProduct(matrix, slotAt(k, k), matrix, slotAt(i, j), 1);
        sum.addProduct(matrix, slotAt(i, k), matrix, slotAt(k, j), -1);
        sum.settle();
        if (k > 0) {
            sum.divideBy(matrix, slotAt(k - 1, k - 1));
        }
        return sum.storeIn(matrix, slotAt(i, j));
    }

    private int solveRow(int i) {
        sum.clear();
        sum.addProduct(matrix, slotAt(n - 1, n - 1), matrix, slotAt(i, n), 1);
        for (int j = i + 1; j < n; j++) {
            sum.addProduct(matrix, slotAt(i, j), outcome, j, -1);
        }
        sum.settle();
        sum.divideBy(matrix, slotAt(i, i));
        if (!sum.storeIn(outcome, i)) {
            return NO_ROOM;
        }
        if (i > 0) {
            return MORE;
        }
        finishOutcome();
        return DONE;
    }

    private void finishOutcome() {
        outcome.copy(n, matrix, slotAt(n - 1, n - 1));
        if (oddSwaps) {
            for (int slot = 0; slot <= n; slot++) {
                outcome.negate(slot);
            }
        }
    }

    private boolean equationHolds(int loadedRow) {
        int first = loadedRow * (n + 1);
        sum.clear();
        for (int j = 0; j < n; j++) {
            sum.addProduct(loaded, first + j, outcome, j, 1);
        }
        sum.addProduct(loaded, first + n, outcome, n, -1);
        return sum.isZero();
    }

    /** Whole numbers in slots of one size; the highest limb of each is not 0, and 0 has no limbs. */
    private static final class Numbers {
        private final int room;
        private final int[] signs;
        private final int[] lengths;
        private final int[] limbs;

        Numbers(int slots, int room) {
            this.room = room;
            signs = new int[slots];
            lengths = new int[slots];
            limbs = new int[slots * room];
        }

        void clearAll() {
            Arrays.fill(signs, 0);
            Arrays.fill(lengths, 0);
        }

        void clear(int slot) {
            signs[slot] = 0;
            lengths[slot] = 0;
        }

        int signOf(int slot) {
            return signs[slot];
        }

        int lengthOf(int slot) {
            return lengths[slot];
        }

        int limbOf(int slot, int place) {
            return limbs[slot * room + place];
        }

        /** Limbs come from the lowest place on, each place once. */
        void putLimb(int slot, int place, int word, int sign) {
            limbs[slot * room + place] = word;
            // A highest limb of 0 counts only when a higher one follows that is not 0.
            if (word != 0) {
                lengths[slot] = place + 1;
                signs[slot] = sign;
            }
        }

        void put(int slot, int[] from, int length, int sign) {
            System.arraycopy(from, 0, limbs, slot * room, length);
            lengths[slot] = length;
            signs[slot] = sign;
        }

        void copy(int slot, Numbers from, int fromSlot) {
            System.arraycopy(from.limbs, fromSlot * room, limbs, slot * room, from.lengths[fromSlot]);
            lengths[slot] = from.lengths[fromSlot];
            signs[slot] = from.signs[fromSlot];
        }

        void negate(int slot) {
            signs[slot] = -signs[slot];
        }

        int tell(int slot, int what) {
            if (what == ASK_SIGN) {
                return signs[slot];
            }
            if (what == ASK_LENGTH) {
                return lengths[slot];
            }
            return what >= 0 && what < lengths[slot] ? limbOf(slot, what) : BAD;
        }
    }

    /**
     * A sum of products, then divided out. What is added and what is taken off are summed apart, so
     * that no limb on the way is below 0; settle() makes one number with a sign of the two.
     */
    private static final class Sum {
        private final int room;
        private final int[] plus;
        private final int[] minus;
        private final int[] divisor;
        private int sign;
        private int length;

        Sum(int room) {
            this.room = room;
            // At most seven products of two numbers are summed: one limb beyond a product's.
            plus = new int[2 * room + 1];
            minus = new int[2 * room + 1];
            divisor = new int[room];
        }

        void clear() {
            Arrays.fill(plus, 0);
            Arrays.fill(minus, 0);
            sign = 0;
            length = 0;
        }

        void addProduct(Numbers a, int slotA, Numbers b, int slotB, int factor) {
            int productSign = a.signOf(slotA) * b.signOf(slotB) * factor;
            if (productSign == 0) {
                return;
            }
            int[] side = productSign > 0 ? plus : minus;
            for (int i = 0; i < a.lengthOf(slotA); i++) {
                addMultiple(side, i, b, slotB, a.limbOf(slotA, i));
            }
        }

        private static void addMultiple(int[] side, int from, Numbers b, int slotB, long word) {
            int lengthB = b.lengthOf(slotB);
            long carry = 0;
            for (int j = 0; j < lengthB; j++) {
                carry += side[from + j] + word * b.limbOf(slotB, j);
                side[from + j] = (int) (carry & LIMB_MASK);
                carry >>= LIMB_BITS;
            }
            for (int k = from + lengthB; carry != 0 && k < side.length; k++) {
                carry += side[k];
                side[k] = (int) (carry & LIMB_MASK);
                carry >>= LIMB_BITS;
            }
        }

        boolean isZero() {
            return compareSides() == 0;
        }

        void settle() {
            sign = compareSides();
            long borrow = 0;
            for (int i = 0; i < plus.length; i++) {
                borrow += sign * ((long) plus[i] - minus[i]);
                plus[i] = (int) (borrow & LIMB_MASK);
                borrow >>= LIMB_BITS;
            }
            length = trimmed(plus, plus.length);
        }

        private int compareSides() {
            for (int i = plus.length - 1; i >= 0; i--) {
                if (plus[i] != minus[i]) {
                    return plus[i] > minus[i] ? 1 : -1;
                }
            }
            return 0;
        }

        /**
         * The division leaves no rest, so it goes from the lowest limb on: each limb of the quotient
         * follows from the lowest one that is left, by the inverse of the divisor's lowest limb.
         */
        void divideBy(Numbers from, int slot) {
            int size = from.lengthOf(slot);
            if (size == 0 || length < size) {
                // Without a rest, only a sum of 0 is shorter than its divisor.
                return;
            }
            for (int i = 0; i < size; i++) {
                divisor[i] = from.limbOf(slot, i);
            }
            // Only an odd number has an inverse to a power of 2.
            int zeroLimbs = countZeroLimbs(size);
            int zeroBits = countZeroBits(divisor[zeroLimbs]);
            shiftDown(divisor, size, zeroLimbs, zeroBits);
            shiftDown(plus, length, zeroLimbs, zeroBits);
            divideByOdd(trimmed(divisor, size), trimmed(plus, length));
            sign *= from.signOf(slot);
        }

        private void divideByOdd(int size, int lengthLeft) {
            int places = Math.max(0, lengthLeft - size + 1);
            int inverse = inverseOf(divisor[0]);
            for (int i = 0; i < places; i++) {
                int word = plus[i] * inverse & LIMB_MASK;
                takeMultiple(i, places, size, word);
                plus[i] = word;
            }
            length = trimmed(plus, places);
        }

        /** Limbs from place end on would no longer change the quotient. */
        private void takeMultiple(int from, int end, int size, long word) {
            long borrow = 0;
            for (int k = from; k < end && (k - from < size || borrow != 0); k++) {
                borrow += plus[k];
                if (k - from < size) {
                    borrow -= word * divisor[k - from];
                }
                plus[k] = (int) (borrow & LIMB_MASK);
                borrow >>= LIMB_BITS;
            }
        }

        private int countZeroLimbs(int size) {
            int count = 0;
            while (count < size - 1 && divisor[count] == 0) {
                count++;
            }
            return count;
        }

        private static int countZeroBits(int word) {
            int count = 0;
            while (count < LIMB_BITS - 1 && (word >> count & 1) == 0) {
                count++;
            }
            return count;
        }

        private static void shiftDown(int[] row, int size, int byLimbs, int byBits) {
            for (int i = 0; i < size; i++) {
                long low = i + byLimbs < size ? row[i + byLimbs] : 0;
                long high = i + byLimbs + 1 < size ? row[i + byLimbs + 1] : 0;
                row[i] = (int) ((high << LIMB_BITS | low) >> byBits & LIMB_MASK);
            }
        }

        /** An odd word is its own inverse in three bits; each round doubles them: 6, 12, 24, 48. */
        private static int inverseOf(int word) {
            int inverse = word;
            for (int round = 0; round < 4; round++) {
                inverse *= 2 - word * inverse;
            }
            return inverse;
        }

        private static int trimmed(int[] row, int most) {
            int size = most;
            while (size > 0 && row[size - 1] == 0) {
                size--;
            }
            return size;
        }

        boolean storeIn(Numbers to, int slot) {
            if (length > room) {
                return false;
            }
            to.put(slot, plus, length, sign);
            return true;
        }
    }
}
