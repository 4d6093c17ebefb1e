import java.lang.reflect.Constructor;
import java.lang.reflect.Field;
import java.lang.reflect.Method;
import java.lang.reflect.Modifier;
import java.math.BigInteger;
import java.util.Arrays;
import java.util.Random;

/** What the document says before its terms: what the class is, and its public face. */
public final class FirstLinesTest {
    private static final String[] CONSTANTS = {"BAD", "MORE", "DONE", "SINGULAR", "NO_ROOM",
        "LOADING"};
    private static final String[] METHODS = {"void reset()", "boolean entry(int, int, int)",
        "boolean limb(int)", "int step()", "int status()", "int steps()", "int determinant(int)",
        "int numerator(int, int)", "int pivot(int, int)", "int number(int, int, int)",
        "int row(int)", "boolean holds()"};

    public static void main(String[] args) {
        face();
        faceConstants();
        faceConstructor();
        faceMethods();
        minorsOnTheWay();
        unknownsTimesTheDeterminant();
        objectsSideBySide();
        anyArgumentsInAnyState();
        readmeExample();
        Due.end();
    }

    private static void face() {
        Due.sentence("public final class MinorSteps");
        int modifiers = MinorSteps.class.getModifiers();
        Due.same("public", Modifier.isPublic(modifiers), true);
        Due.same("final", Modifier.isFinal(modifiers), true);
        Due.same("no package", MinorSteps.class.getPackageName().isEmpty(), true);
        Due.same("nothing above it", MinorSteps.class.getSuperclass() == Object.class, true);
        Due.same("no interface", MinorSteps.class.getInterfaces().length, 0);
        for (Class<?> inside : MinorSteps.class.getDeclaredClasses()) {
            int kind = inside.getModifiers();
            Due.same(inside + " is static and not public",
                    Modifier.isStatic(kind) && !Modifier.isPublic(kind), true);
        }
    }

    private static void faceConstants() {
        Due.sentence("public static final int BAD = -1, MORE = 0, .. LOADING = 4");
        int found = 0;
        for (Field field : MinorSteps.class.getDeclaredFields()) {
            int kind = field.getModifiers();
            if (Modifier.isPrivate(kind)) {
                continue;
            }
            found++;
            Due.same(field + " is of the face", Arrays.asList(CONSTANTS).contains(field.getName())
                    && Modifier.isPublic(kind) && Modifier.isStatic(kind)
                    && Modifier.isFinal(kind) && field.getType() == int.class, true);
        }
        Due.same("constants", found, CONSTANTS.length);
    }

    private static void faceConstructor() {
        Due.sentence("public MinorSteps(int rows, int limbs)");
        Constructor<?>[] all = MinorSteps.class.getDeclaredConstructors();
        Due.same("constructors", all.length, 1);
        Due.same("public", Modifier.isPublic(all[0].getModifiers()), true);
        Due.same("of two ints",
                Arrays.equals(all[0].getParameterTypes(), new Class<?>[] {int.class, int.class}), true);
    }

    private static void faceMethods() {
        Due.sentence("The public face");
        int found = 0;
        for (Method method : MinorSteps.class.getDeclaredMethods()) {
            int kind = method.getModifiers();
            String form = form(method);
            if (!Modifier.isPrivate(kind)) {
                found++;
                Due.same(form + " is of the face", Modifier.isPublic(kind)
                        && !Modifier.isStatic(kind) && Arrays.asList(METHODS).contains(form), true);
            }
        }
        Due.same("methods", found, METHODS.length);
    }

    private static String form(Method method) {
        StringBuilder types = new StringBuilder();
        for (Class<?> type : method.getParameterTypes()) {
            types.append(types.length() == 0 ? "" : ", ").append(type.getName());
        }
        return method.getReturnType().getName() + " " + method.getName() + "(" + types + ")";
    }

    /** Many numbers are 0, so that rows change places; the matrix is the same for each seed. */
    private static BigInteger[][] matrix(int n, int seed) {
        Random random = new Random(seed);
        BigInteger[][] rows = new BigInteger[n][n + 1];
        for (int i = 0; i < n; i++) {
            for (int j = 0; j <= n; j++) {
                BigInteger value = new BigInteger(1 + random.nextInt(70), random);
                rows[i][j] = random.nextInt(3) == 0 ? BigInteger.ZERO
                        : random.nextBoolean() ? value : value.negate();
            }
        }
        return rows;
    }

    private static void minorsOnTheWay() {
        Due.sentence("each number on the way is a minor of the matrix, divided out exactly");
        for (int n = 1; n <= 6; n++) {
            for (int seed = 0; seed < 12; seed++) {
                BigInteger[][] rows = matrix(n, 100 * n + seed);
                MinorSteps x = Load.matrix(16, rows);
                for (int k = 0; k < n && x.step() == MinorSteps.MORE; k++) {
                    minorsAfter(x, rows, k);
                }
            }
        }
    }

    private static void minorsAfter(MinorSteps x, BigInteger[][] rows, int k) {
        Load.pivot(x, k, minor(x, rows, k, k, k));
        for (int i = k + 1; i < rows.length; i++) {
            for (int j = k + 1; j <= rows.length; j++) {
                Load.number("step " + k, x, i, j, minor(x, rows, k + 1, i, j));
            }
        }
    }

    /** Of the rows that are in rows 0 .. size - 1 and i now, and columns 0 .. size - 1 and j. */
    private static BigInteger minor(MinorSteps x, BigInteger[][] rows, int size, int i, int j) {
        BigInteger[][] part = new BigInteger[size + 1][size + 1];
        for (int r = 0; r <= size; r++) {
            for (int c = 0; c <= size; c++) {
                part[r][c] = rows[x.row(r < size ? r : i)][c < size ? c : j];
            }
        }
        return Cramer.determinant(part);
    }

    private static void unknownsTimesTheDeterminant() {
        Due.sentence("in the end the determinant, and what each unknown times it is");
        for (int n = 1; n <= 6; n++) {
            for (int seed = 0; seed < 12; seed++) {
                BigInteger[][] rows = matrix(n, 1000 * n + seed);
                MinorSteps x = Load.matrix(16, rows);
                for (int s = 0; s < 2 * n; s++) {
                    x.step();
                }
                BigInteger due = Cramer.determinant(rows);
                Due.same("status()", x.status(),
                        due.signum() == 0 ? MinorSteps.SINGULAR : MinorSteps.DONE);
                Load.determinant(x, due);
                for (int j = 0; j < n; j++) {
                    Load.numerator(x, j, due.signum() == 0 ? null : Cramer.numerator(rows, j));
                }
                Due.same("holds()", x.holds(), due.signum() != 0);
            }
        }
    }

    private static void objectsSideBySide() {
        Due.sentence("An object is used");
        BigInteger[][] rows = Load.rows(new long[][] {{0, 2, 4}, {3, 0, 9}});
        MinorSteps one = Load.matrix(2, rows);
        MinorSteps other = new MinorSteps(6, 1);
        for (int s = 0; s < 4; s++) {
            one.step();
            other.entry(s, s, 1);
            other.limb(s);
            other.holds();
        }
        Due.same("the other is loading", other.status(), MinorSteps.LOADING);
        other.step();
        other.reset();
        Due.same("the one is done", one.status(), MinorSteps.DONE);
        Due.same("holds()", one.holds(), true);
        Load.determinant(one, Load.big(-6));
        Load.determinant(other, null);
    }

    /** No call throws or changes what it only asks for, whatever its arguments are. */
    private static void anyArgumentsInAnyState() {
        Due.sentence("Nothing is promised beyond the answers and state changes described above");
        int[] values = {Integer.MIN_VALUE, -3, -2, -1, 0, 1, 2, 6, 7, 16, 17, Integer.MAX_VALUE};
        for (int rows : values) {
            for (int limbs : values) {
                MinorSteps x = new MinorSteps(rows, limbs);
                for (int s = 0; s < 14; s++) {
                    int status = x.status();
                    int steps = x.steps();
                    askAll(x, values);
                    Due.same("status()", x.status(), status);
                    Due.same("steps()", x.steps(), steps);
                    loadAll(x, values, s);
                    x.step();
                }
            }
        }
    }

    private static void askAll(MinorSteps x, int[] values) {
        for (int a : values) {
            x.determinant(a);
            x.row(a);
            for (int b : values) {
                x.numerator(a, b);
                x.pivot(a, b);
                for (int what = -3; what < 3; what++) {
                    x.number(a, b, what);
                }
            }
        }
        x.holds();
    }

    private static void loadAll(MinorSteps x, int[] values, int turn) {
        for (int a : values) {
            for (int b : values) {
                x.entry(a, b, values[(a & 3) + (b & 3) + turn % 3]);
                x.limb(a);
                x.limb(b);
            }
        }
    }

    private static void readmeExample() {
        Due.sentence("README.md, How to use it");
        MinorSteps m = new MinorSteps(2, 4);
        m.entry(0, 0, 1);
        m.limb(2);
        m.entry(0, 1, 1);
        m.limb(1);
        m.entry(0, 2, 1);
        m.limb(5);
        m.entry(1, 0, 1);
        m.limb(1);
        m.entry(1, 1, -1);
        m.limb(3);
        m.entry(1, 2, -1);
        m.limb(8);
        while (m.step() == MinorSteps.MORE) {
            Due.same("status()", m.status(), MinorSteps.MORE);
        }
        Due.same("status()", m.status(), MinorSteps.DONE);
        Due.same("steps()", m.steps(), 4);
        Load.determinant(m, Load.big(-7));
        Load.numerator(m, 0, Load.big(-7));
        Load.numerator(m, 1, Load.big(-21));
        Due.same("holds()", m.holds(), true);
    }
}
