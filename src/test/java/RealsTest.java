import java.lang.reflect.Method;
import java.util.Random;

/** The class reckons DOUBLES and SINGLES in whole numbers: here each operation is held against the machine's own. */
public final class RealsTest {
    private static final long[] EDGES = {
        0x0L, 0x1L, 0x2L, 0xFFFFFFFFFFFFFL, 0x10000000000000L, 0x10000000000001L, 0x3FF0000000000000L,
        0x3FF0000000000001L, 0x3FEFFFFFFFFFFFFFL, 0x4000000000000000L, 0x7FEFFFFFFFFFFFFFL, 0x7FE0000000000000L,
        0x7FF0000000000000L, 0x7FF8000000000000L, 0x41DFFFFFFFC00000L, 0x41E0000000000000L, 0x41DFFFFFFFFFFFFFL,
        0x47EFFFFFE0000000L, 0x47EFFFFFF0000000L, 0x47EFFFFFEFFFFFFFL, 0x47F0000000000000L, 0x36A0000000000000L,
        0x3690000000000000L, 0x3690000000000001L, 0x36B8000000000000L, 0x380FFFFFC0000000L, 0x380FFFFFE0000000L,
        0x3810000000000000L, 0x3FF0000010000000L, 0x3FF0000030000000L, 0x0008000000000000L, 0x0018000000000000L
    };
    private static final int[] SINGLE_EDGES = {
        0, 1, 2, 0x7FFFFF, 0x800000, 0x800001, 0x3F800000, 0x7F7FFFFF, 0x7F800000, 0x7FC00000, 0x400000
    };

    private static int wrong = 0;
    private static Class<?> reals;

    public static void main(String[] args) throws Exception {
        reals = Class.forName("EchoStudio$Reals");
        for (long a : EDGES) {
            for (long b : EDGES) {
                for (int signs = 0; signs < 4; signs++) {
                    both(canonical(a | (long) (signs & 1) << 63), canonical(b | (long) (signs & 2) << 62));
                }
            }
        }
        Random random = new Random(20261116);
        for (int i = 0; i < 200000; i++) {
            long a = any(random);
            both(a, random.nextInt(4) == 0 ? near(a, random) : any(random));
        }
        for (int s : SINGLE_EDGES) {
            single(s);
            single(s | 0x80000000);
        }
        for (int i = 0; i < 200000; i++) {
            single(random.nextInt());
        }
        wholes();
        if (wrong > 0) {
            System.out.println(wrong + " wrong");
            System.exit(1);
        }
        System.out.println("all operations are as due");
    }

    private static long canonical(long bits) {
        return Double.doubleToLongBits(Double.longBitsToDouble(bits));
    }

    private static long any(Random random) {
        switch (random.nextInt(6)) {
            case 0: return canonical(random.nextLong());
            case 1: return canonical((EDGES[random.nextInt(EDGES.length)] + random.nextInt(5) - 2) & ~(1L << 63));
            case 2: return Double.doubleToLongBits((float) random.nextGaussian());
            case 3: return Double.doubleToLongBits(random.nextInt(2000) - 1000);
            case 4: return canonical((long) (896 - 30 + random.nextInt(60)) << 52 | random.nextLong() >>> 12);
            default: return Double.doubleToLongBits(random.nextGaussian() * 1000);
        }
    }

    private static long near(long a, Random random) {
        long other = a + random.nextInt(9) - 4 ^ (random.nextBoolean() ? 1L << 63 : 0);
        return canonical(other + ((long) random.nextInt(120) - 60 << 52));
    }

    private static void both(long a, long b) throws Exception {
        double x = Double.longBitsToDouble(a);
        double y = Double.longBitsToDouble(b);
        due("add", a, b, Double.doubleToLongBits(x + y));
        due("subtract", a, b, Double.doubleToLongBits(x - y));
        due("multiply", a, b, Double.doubleToLongBits(x * y));
        due("divide", a, b, Double.doubleToLongBits(x / y));
        due("least", a, b, Double.doubleToLongBits(Math.min(x, y)));
        due("most", a, b, Double.doubleToLongBits(Math.max(x, y)));
        due("less", a, b, x < y ? 1 : 0);
        due("same", a, b, x == y ? 1 : 0);
        dueOne("whole", a, (int) x);
        dueOne("toSingle", a, Float.floatToIntBits((float) x));
        dueOne("size", a, Double.doubleToLongBits(Math.abs(x)));
        dueOne("negated", a, Double.doubleToLongBits(-x));
        dueOne("isNaN", a, Double.isNaN(x) ? 1 : 0);
        dueOne("isZero", a, x == 0 ? 1 : 0);
    }

    private static void single(int bits) throws Exception {
        float f = Float.intBitsToFloat(bits);
        Method method = reals.getDeclaredMethod("ofSingle", int.class);
        method.setAccessible(true);
        answer("ofSingle", bits, 0, method.invoke(null, Float.floatToIntBits(f)), Double.doubleToLongBits(f));
    }

    private static void wholes() throws Exception {
        long[] numbers = {0, 1, -1, 2, 3, 10, 300, 999999, 9999999999L, Integer.MAX_VALUE, Integer.MIN_VALUE, 1L << 52};
        for (long n : numbers) {
            dueOne("ofWhole", n, Double.doubleToLongBits((double) n));
        }
    }

    private static void due(String name, long a, long b, long want) throws Exception {
        Method method = reals.getDeclaredMethod(name, long.class, long.class);
        method.setAccessible(true);
        answer(name, a, b, method.invoke(null, a, b), want);
    }

    private static void dueOne(String name, long a, long want) throws Exception {
        Method method = reals.getDeclaredMethod(name, long.class);
        method.setAccessible(true);
        answer(name, a, 0, method.invoke(null, a), want);
    }

    private static void answer(String name, long a, long b, Object got, long want) {
        long number = got instanceof Boolean ? ((Boolean) got ? 1 : 0) : ((Number) got).longValue();
        if (number != want) {
            wrong++;
            if (wrong <= 20) {
                System.out.println(name + "(" + Long.toHexString(a) + ", " + Long.toHexString(b) + ") answered "
                        + Long.toHexString(number) + ", due is " + Long.toHexString(want));
            }
        }
    }
}
