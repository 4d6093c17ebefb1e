import java.math.BigInteger;
import java.util.Random;

/** Long runs of calls, the same each time, with the answers of the plain model beside them. */
public final class RandomRunsTest {
    private static final int RUNS = 3000;
    private static final int[] seen = new int[5];

    private final Random random;
    private final MinorSteps x;
    private final Model model;

    private RandomRunsTest(long seed) {
        random = new Random(seed);
        int rows = random.nextInt(9) - 1;
        int limbs = random.nextBoolean() ? random.nextInt(20) - 1 : 1 + random.nextInt(4);
        x = new MinorSteps(rows, limbs);
        model = new Model(rows, limbs);
    }

    public static void main(String[] args) {
        for (int seed = 0; seed < RUNS; seed++) {
            new RandomRunsTest(seed).run();
        }
        for (int status = 0; status < seen.length; status++) {
            Due.same("runs that reach status " + status, seen[status] > RUNS / 10, true);
        }
        Due.end();
    }

    private void run() {
        for (int round = 0; round < 3; round++) {
            load();
            if (random.nextInt(3) == 0) {
                strayCalls();
            }
            compareAll();
            int most = random.nextInt(4) == 0 ? random.nextInt(2 * model.n + 1) : 2 * model.n + 2;
            for (int s = 0; s < most; s++) {
                Due.same("step()", x.step(), model.step());
                strayCalls();
                compareAll();
                seen[model.status]++;
            }
            if (model.status == MinorSteps.DONE) {
                compareWithCramer();
            }
            x.reset();
            model.reset();
            compareAll();
            seen[model.status]++;
        }
    }

    private void load() {
        int kind = random.nextInt(5);
        int length = 1 + random.nextInt(kind == 0 ? model.room : Math.max(1, model.room / model.n));
        int zeros = random.nextInt(4);
        int filled = random.nextInt(3) == 0 ? random.nextInt(model.n + 1) : model.n;
        for (int i = 0; i < filled; i++) {
            for (int j = 0; j <= model.n; j++) {
                entry(i, j, random.nextInt(4) < zeros ? 0 : random.nextBoolean() ? 1 : -1);
                int limbs = 1 + random.nextInt(length);
                for (int k = 0; k < limbs; k++) {
                    limb(kind == 1 ? random.nextInt(4) : word());
                }
            }
        }
        if (random.nextInt(4) == 0 && model.n > 1) {
            repeatRow(random.nextInt(model.n), random.nextInt(model.n));
        }
    }

    private void repeatRow(int from, int to) {
        for (int j = 0; j <= model.n; j++) {
            BigInteger value = model.number(from, j);
            entry(to, j, value.signum());
            for (int k = 0; k < Load.limbs(value); k++) {
                limb(Load.limb(value, k));
            }
        }
    }

    private int word() {
        switch (random.nextInt(6)) {
            case 0:
                return 0;
            case 1:
                return Integer.MAX_VALUE - random.nextInt(2);
            case 2:
                return 1 << random.nextInt(31);
            case 3:
                return random.nextInt(10);
            default:
                return random.nextInt() & Integer.MAX_VALUE;
        }
    }

    private void entry(int row, int column, int sign) {
        Due.same("entry()", x.entry(row, column, sign), model.entry(row, column, sign));
    }

    private void limb(int word) {
        Due.same("limb()", x.limb(word), model.limb(word));
    }

    private void strayCalls() {
        for (int c = 0; c < 2; c++) {
            entry(random.nextInt(10) - 2, random.nextInt(10) - 2, random.nextInt(5) - 2);
            limb(random.nextInt());
        }
    }

    private void compareAll() {
        Due.same("status()", x.status(), model.status);
        Due.same("steps()", x.steps(), model.steps);
        Due.same("holds()", x.holds(), model.holds());
        Load.determinant(x, model.determinant());
        for (int i = -1; i <= model.n; i++) {
            Due.same("row(" + i + ")", x.row(i), model.row(i));
            Load.numerator(x, i, model.numerator(i));
            Load.pivot(x, i, model.pivot(i));
            for (int j = -1; j <= model.n + 1; j++) {
                Load.number("status " + model.status, x, i, j, model.number(i, j));
            }
        }
    }

    private void compareWithCramer() {
        Load.determinant(x, Cramer.determinant(model.loaded));
        for (int j = 0; j < model.n; j++) {
            Load.numerator(x, j, Cramer.numerator(model.loaded, j));
        }
    }
}
