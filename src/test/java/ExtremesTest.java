import java.lang.reflect.Method;
import java.lang.reflect.Modifier;

/**
 * LANGUAGE.md, rule 7: no call ever throws or fails to end, for any arguments in any state. Each call of
 * the face is made with numbers at and beyond every edge, in states of all sorts; a throw ends the test.
 */
public final class ExtremesTest {
    private static final int[] MANY = {Edges.MIN, Edges.MIN + 1, -1000000, -10, -9, -1, 0, 1, 2, 3, 5, 7, 8, 9, 12, 13, 19, 20, 21, 24,
        25, 39, 40, 41, 60, 61, 99, 100, 101, 199, 200, 201, 255, 256, 399, 400, 999, 1199, 1200, 999999, 1000000, Edges.MAX - 1, Edges.MAX};
    private static final int[] SOME = {Edges.MIN, -1, 0, 1, 2, 7, 8, 20, 40, 41, 100, Edges.MAX};
    private static final int[] FEW = {Edges.MIN, -1, 0, 1, 3, 40, Edges.MAX};
    /** BUSY has some 170 calls behind it; with these an object stays within 512. */
    private static final int CALLS = 250;

    private final Edges.Begin begin;
    private NinthWave x;
    private int left;
    private long made;

    private ExtremesTest(Edges.Begin begin) {
        this.begin = begin;
    }

    private void call(Method m, Object[] numbers) throws ReflectiveOperationException {
        if (left == 0) {
            x = begin.make();
            left = CALLS;
        }
        left--;
        made++;
        m.invoke(x, numbers);
    }

    private void all(Method m, Object[] numbers, int k) throws ReflectiveOperationException {
        if (k == numbers.length) {
            call(m, numbers);
            return;
        }
        int[] from = numbers.length <= 2 ? MANY : numbers.length <= 3 ? SOME : FEW;
        for (int n : from) {
            numbers[k] = n;
            all(m, numbers, k + 1);
        }
    }

    public static void main(String[] args) throws ReflectiveOperationException {
        Edges.Begin[] begins = {Edges.BLANK, Edges.NO_SEA, Edges.BUSY, Edges.ACTED, () -> Edges.told("b0,0;l0;t0,0;"),
            () -> Edges.told("b60,9;" + "s30;".repeat(20) + "t7,8;t7,8;t7,8;" + "h99,2;".repeat(6))};
        long made = 0;
        for (Edges.Begin begin : begins) {
            ExtremesTest test = new ExtremesTest(begin);
            for (Method m : NinthWave.class.getDeclaredMethods()) {
                if (Modifier.isPublic(m.getModifiers())) {
                    test.all(m, new Object[m.getParameterCount()], 0);
                }
            }
            made += test.made;
        }
        System.out.println(made + " calls, none threw");
    }
}
