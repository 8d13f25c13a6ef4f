import java.math.BigDecimal;
import java.util.Random;

/** The doubles by their bits, against those of the language. */
public final class RealTest {
    private static final Random ANY = new Random(20261118L);
    private static final double[] EDGES = {
        0.0, -0.0, 1.0, -1.0, 0.5, 1.5, 2.5, 3.0, 10.0, 0.1, 1e15, 1e300, 1e-300, Double.MIN_VALUE, -Double.MIN_VALUE,
        Double.MAX_VALUE, -Double.MAX_VALUE, Double.MIN_NORMAL, Math.nextDown(Double.MIN_NORMAL),
        Double.POSITIVE_INFINITY, Double.NEGATIVE_INFINITY, Double.NaN, 9007199254740992.0, 9007199254740993.0,
        9223372036854775807.0, -9223372036854775808.0, 9223372036854774784.0, -9223372036854777856.0,
        4503599627370495.5, -4503599627370495.5, 0.9999999999999999, 1.0000000000000002, -0.3, 1e-320};

    private static double any() {
        switch (ANY.nextInt(7)) {
            case 0:
                return EDGES[ANY.nextInt(EDGES.length)];
            case 1:
                return ANY.nextInt(2000) - 1000;
            case 2:
                return (ANY.nextInt(20000) - 10000) / 16.0;
            case 3:
                return Double.longBitsToDouble(ANY.nextLong() & 0x801fffffffffffffL);
            case 4:
                return ANY.nextLong();
            case 5:
                return Double.longBitsToDouble(
                    ANY.nextLong() & 0x800fffffffffffffL | (long) (1023 + ANY.nextInt(130) - 65) << 52);
            default:
                return Double.longBitsToDouble(ANY.nextLong());
        }
    }

    private static void same(String what, double a, double b, long got, double want) {
        if (got != Double.doubleToLongBits(want)) {
            Due.is(what + " of " + a + " and " + b, Sheet.real(Double.longBitsToDouble(got)), Sheet.real(want));
        }
    }

    private static void two(double a, double b) {
        long x = Double.doubleToLongBits(a);
        long y = Double.doubleToLongBits(b);
        same("sum", a, b, NestSheet.Real.sum(x, y), a + b);
        same("difference", a, b, NestSheet.Real.sum(x, NestSheet.Real.negated(y)), a - b);
        same("product", a, b, NestSheet.Real.product(x, y), a * b);
        same("quotient", a, b, NestSheet.Real.quotient(x, y), a / b);
        same("rest", a, b, NestSheet.Real.rest(x, y), a % b);
        if (Integer.signum(NestSheet.Real.compare(x, y)) != Integer.signum(Double.compare(a, b))) {
            Due.is("order of " + a + " and " + b, NestSheet.Real.compare(x, y), Double.compare(a, b));
        }
    }

    private static void one(double a) {
        long x = Double.doubleToLongBits(a);
        same("floor", a, a, NestSheet.Real.floor(x), Math.floor(a));
        same("negated", a, a, NestSheet.Real.negated(x), -a);
        same("unsigned", a, a, NestSheet.Real.unsigned(x), Math.abs(a));
        if (NestSheet.Real.cast(x) != (long) a) {
            Due.is("cast of " + a, NestSheet.Real.cast(x), (long) a);
        }
    }

    private static int exact(long whole, double b) {
        if (Double.isNaN(b)) {
            return -1;
        }
        if (Double.isInfinite(b)) {
            return b > 0 ? -1 : 1;
        }
        return new BigDecimal(whole).compareTo(new BigDecimal(b));
    }

    private static void withWhole(long whole, double b) {
        if (NestSheet.Real.nearest(whole) != Double.doubleToLongBits((double) whole)) {
            Due.is("nearest of " + whole, NestSheet.Real.nearest(whole), Double.doubleToLongBits((double) whole));
        }
        int got = NestSheet.Real.mixed(whole, Double.doubleToLongBits(b));
        if (Integer.signum(got) != exact(whole, b)) {
            Due.is("order of " + whole + " and " + b, got, exact(whole, b));
        }
    }

    public static void main(String[] args) {
        for (double a : EDGES) {
            one(a);
            for (double b : EDGES) {
                two(a, b);
                withWhole((long) a, b);
                withWhole((long) a + 1, b);
                withWhole((long) a - 1, b);
            }
        }
        for (int i = 0; i < 2000000; i++) {
            double a = any();
            two(a, any());
            one(a);
            withWhole(ANY.nextLong() >> ANY.nextInt(64), a);
            withWhole((long) a + ANY.nextInt(3) - 1, a);
        }
        Due.is("the end", 0, 0);
        Due.end("RealTest");
    }
}
