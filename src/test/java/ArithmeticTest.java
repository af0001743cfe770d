import java.math.BigInteger;
import java.util.Random;

/** The classes inside against the library's numbers, at the edges that no run of calls could aim at. */
final class ArithmeticTest {
    private static final BigInteger P = Reference.P;
    private static final BigInteger Q = Reference.Q;
    private static final Random RANDOM = new Random(7);

    private ArithmeticTest() {
    }

    public static void main(String[] args) {
        fieldProducts();
        fieldNormalizing();
        fieldInverses();
        fieldConversions();
        scalars();
        scalarsThatFoldLong();
        fractions();
        expandedBytes();
        pointSums();
        productsWithG();
        pointBytes();
        Check.end();
    }

    private static BigInteger value(long[] limbs) {
        BigInteger sum = BigInteger.ZERO;
        for (int k = 9; k >= 0; k--) {
            sum = sum.shiftLeft(26).add(BigInteger.valueOf(limbs[k]));
        }
        return sum;
    }

    private static BigInteger value(int[] words) {
        BigInteger sum = BigInteger.ZERO;
        for (int k = 7; k >= 0; k--) {
            sum = sum.shiftLeft(32).add(BigInteger.valueOf(words[k] & 0xffffffffL));
        }
        return sum;
    }

    private static int[] words(BigInteger number) {
        int[] out = new int[8];
        for (int k = 0; k < 8; k++) {
            out[k] = number.shiftRight(32 * k).intValue();
        }
        return out;
    }

    private static long[] limbs(BigInteger number) {
        long[] out = new long[10];
        for (int k = 0; k < 10; k++) {
            out[k] = number.shiftRight(26 * k).longValue() & 0x3ffffff;
        }
        return out;
    }

    /** Limbs up to so many times as large as carried ones: all at the edge, of either sign, or any. */
    private static long[] loose(int kind, double large) {
        long edge = (long) (large * (1 << 26));
        long[] out = new long[10];
        for (int k = 0; k < 10; k++) {
            switch (kind) {
                case 0: out[k] = edge; break;
                case 1: out[k] = -edge; break;
                case 2: out[k] = RANDOM.nextBoolean() ? edge : -edge; break;
                case 3: out[k] = RANDOM.nextInt(4) == 0 ? edge : 0; break;
                default: out[k] = (long) ((RANDOM.nextDouble() * 2 - 1) * edge); break;
            }
        }
        return out;
    }

    private static void fieldProducts() {
        ThresholdBench.Field field = new ThresholdBench.Field();
        double[][] sizes = {{1, 1}, {10.4, 10.4}, {3.2, 14}, {11.3, 11.3}, {127, 1}};
        for (double[] size : sizes) {
            for (int turn = 0; turn < 2000; turn++) {
                long[] a = loose(turn % 6, size[0]);
                long[] b = loose(turn / 6 % 6, size[1]);
                long[] out = new long[10];
                field.multiply(out, a, b);
                settled("product", out, value(a).multiply(value(b)));
                if (size[0] < 12) {
                    field.square(out, a);
                    settled("square", out, value(a).pow(2));
                    BigInteger square = value(a).pow(2);
                    field.multiply(a, a, a);
                    settled("product onto its factors", a, square);
                }
            }
        }
    }

    private static void settled(String what, long[] got, BigInteger want) {
        Check.due(what, value(got).mod(P).toString(16), want.mod(P).toString(16));
        for (long limb : got) {
            Check.due(what + " is carried", Math.abs(limb) <= (long) (1.04 * (1 << 26)), true);
        }
    }

    private static void fieldNormalizing() {
        ThresholdBench.Field field = new ThresholdBench.Field();
        BigInteger[] nears = {BigInteger.ZERO, P, P.shiftLeft(1), BigInteger.TWO.pow(256), BigInteger.TWO.pow(255)};
        for (BigInteger near : nears) {
            for (int off = 0; off < 2200; off++) {
                BigInteger want = near.add(BigInteger.valueOf(off));
                normal(field, limbs(want), want);
                long[] less = limbs(near);
                less[0] -= off;
                normal(field, less, near.subtract(BigInteger.valueOf(off)));
                long[] negative = limbs(want);
                for (int k = 0; k < 10; k++) {
                    negative[k] = -negative[k];
                }
                normal(field, negative, want.negate());
            }
        }
        for (int turn = 0; turn < 5000; turn++) {
            long[] a = loose(turn % 6, 1 + turn % 13);
            normal(field, a, value(a));
        }
    }

    private static void normal(ThresholdBench.Field field, long[] a, BigInteger want) {
        Check.due("is zero", field.isZero(a), want.mod(P).signum() == 0);
        ThresholdBench.Field.normalize(a);
        Check.due("normalized", value(a).toString(16), want.mod(P).toString(16));
        for (long limb : a) {
            Check.due("limb in range", limb >= 0 && limb < 1 << 26, true);
        }
    }

    private static void fieldInverses() {
        ThresholdBench.Field field = new ThresholdBench.Field();
        for (int turn = 0; turn < 200; turn++) {
            BigInteger a = turn < 20 ? BigInteger.valueOf(turn + 1) : new BigInteger(256, RANDOM).mod(P);
            long[] out = new long[10];
            field.invert(out, limbs(a));
            Check.due("inverse", value(out).mod(P).toString(16), a.modInverse(P).toString(16));
            field.root(out, limbs(a.multiply(a).mod(P)));
            Check.due("root", value(out).pow(2).mod(P).toString(16), a.multiply(a).mod(P).toString(16));
        }
    }

    private static void fieldConversions() {
        for (int turn = 0; turn < 600; turn++) {
            BigInteger a = turn < 256 ? BigInteger.ONE.shiftLeft(turn) : new BigInteger(256, RANDOM);
            long[] out = new long[10];
            ThresholdBench.Field.fromWords(out, words(a));
            Check.due("from words", value(out).toString(16), a.toString(16));
            for (int place = 0; place < 32; place++) {
                Check.due("byte " + place, ThresholdBench.Field.byteOf(out, place),
                    a.shiftRight(8 * place).intValue() & 255);
            }
        }
    }

    private static BigInteger scalar(int turn) {
        BigInteger[] edges = {BigInteger.ZERO, BigInteger.ONE, Q.subtract(BigInteger.ONE), Q.shiftRight(1),
            BigInteger.ONE.shiftLeft(255), BigInteger.ONE.shiftLeft(128), BigInteger.TWO.pow(128).subtract(BigInteger.ONE)};
        return turn < edges.length ? edges[turn] : new BigInteger(256, RANDOM).mod(Q);
    }

    private static void scalars() {
        ThresholdBench.Scalars scalars = new ThresholdBench.Scalars();
        int[] out = new int[8];
        for (int i = 0; i < 12; i++) {
            for (int j = 0; j < 12; j++) {
                for (int k = 0; k < 12; k++) {
                    BigInteger a = scalar(i);
                    BigInteger b = scalar(j);
                    BigInteger c = scalar(k);
                    scalars.multiplyAndAdd(out, words(a), words(b), words(c));
                    Check.due("a * b + c", value(out).toString(), a.multiply(b).add(c).mod(Q).toString());
                    scalars.multiply(out, words(a), words(b));
                    Check.due("a * b", value(out).toString(), a.multiply(b).mod(Q).toString());
                    scalars.add(out, words(a), words(b));
                    Check.due("a + b", value(out).toString(), a.add(b).mod(Q).toString());
                }
            }
        }
        int[] most = words(BigInteger.TWO.pow(256).subtract(BigInteger.ONE));
        scalars.multiplyAndAdd(out, most, most, most);
        Check.due("the largest of all", value(out).toString(),
            value(most).multiply(value(most)).add(value(most)).mod(Q).toString());
        Check.due("q is no scalar", ThresholdBench.Scalars.isScalar(words(Q)), false);
        Check.due("q - 1 is one", ThresholdBench.Scalars.isScalar(words(Q.subtract(BigInteger.ONE))), true);
        Check.due("q + 2^32 is none", ThresholdBench.Scalars.isScalar(words(Q.add(BigInteger.TWO.pow(32)))), false);
    }

    /** A product that comes down below 2^256 only when what is above has been folded in four times. */
    private static void scalarsThatFoldLong() {
        BigInteger over = BigInteger.TWO.pow(256).subtract(Q);
        BigInteger most = BigInteger.TWO.pow(256).subtract(BigInteger.ONE);
        for (int off = 0; off < 4; off++) {
            BigInteger thirdFold = BigInteger.TWO.pow(257).subtract(BigInteger.valueOf(off + 1));
            BigInteger above = over.multiply(BigInteger.valueOf(4)).divide(BigInteger.valueOf(5));
            BigInteger secondFold = above.shiftLeft(256).add(thirdFold.subtract(above.multiply(over)));
            BigInteger[] firstFold = secondFold.divideAndRemainder(over);
            BigInteger wide = firstFold[0].shiftLeft(256).add(firstFold[1]);
            for (BigInteger a : new BigInteger[] {most, Q.subtract(BigInteger.ONE), Q.subtract(BigInteger.TEN)}) {
                BigInteger[] parts = wide.divideAndRemainder(a);
                Check.due("the factor is below 2^256", parts[0].bitLength() <= 256, true);
                int[] out = new int[8];
                new ThresholdBench.Scalars().multiplyAndAdd(out, words(a), words(parts[0]), words(parts[1]));
                Check.due("four folds", value(out).toString(), wide.mod(Q).toString());
            }
        }
    }

    private static void fractions() {
        ThresholdBench.Scalars scalars = new ThresholdBench.Scalars();
        int[] out = new int[8];
        for (int set = 1; set < 256; set++) {
            for (int i = 1; i <= 8; i++) {
                int above = 1;
                int below = 1;
                for (int j = 1; j <= 8; j++) {
                    if (j != i && (set >> (j - 1) & 1) == 1) {
                        above *= j;
                        below *= j - i;
                    }
                }
                scalars.fraction(out, above, below);
                BigInteger want = BigInteger.valueOf(above).multiply(BigInteger.valueOf(below).mod(Q).modInverse(Q));
                Check.due(above + " / " + below, value(out).toString(), want.mod(Q).toString());
            }
        }
    }

    private static void expandedBytes() {
        ThresholdBench.Scalars scalars = new ThresholdBench.Scalars();
        int[] out = new int[8];
        for (int turn = 0; turn < 50; turn++) {
            BigInteger number = turn == 0 ? BigInteger.TWO.pow(384).subtract(BigInteger.ONE)
                : turn < 10 ? Q.multiply(BigInteger.TWO.pow(127)).subtract(BigInteger.valueOf(turn - 5))
                : new BigInteger(384, RANDOM);
            ThresholdBench.Row row = new ThresholdBench.Row(64);
            for (int k = 47; k >= 0; k--) {
                row.put(number.shiftRight(8 * k).intValue());
            }
            row.put(255);
            scalars.readExpanded(out, row);
            Check.due("48 bytes", value(out).toString(), number.mod(Q).toString());
        }
    }

    private static ThresholdBench.Point flat(ThresholdBench.Curve curve, BigInteger factor) {
        ThresholdBench.Point point = new ThresholdBench.Point();
        curve.timesG(point, words(factor));
        curve.flatten(point);
        return point;
    }

    private static String bytes(ThresholdBench.Curve curve, ThresholdBench.Point point) {
        if (point.zero) {
            return "zero";
        }
        ThresholdBench.Row row = new ThresholdBench.Row(33);
        curve.flatten(point);
        ThresholdBench.Curve.write(row, point);
        return java.util.HexFormat.of().formatHex(row.bytes);
    }

    private static String due(BigInteger factor) {
        BigInteger[] point = Reference.times(factor.mod(Q), Reference.G);
        return point == null ? "zero" : java.util.HexFormat.of().formatHex(Reference.bytes(point));
    }

    /** Sums of small multiples of G, so that equal and opposite points meet, and ZERO on either side. */
    private static void pointSums() {
        ThresholdBench.Curve curve = new ThresholdBench.Curve();
        for (int i = -3; i <= 3; i++) {
            for (int j = -3; j <= 3; j++) {
                BigInteger a = BigInteger.valueOf(i);
                BigInteger b = BigInteger.valueOf(j);
                ThresholdBench.Point sum = new ThresholdBench.Point();
                curve.timesG(sum, words(a.mod(Q)));
                ThresholdBench.Point second = new ThresholdBench.Point();
                curve.timesG(second, words(b.mod(Q)));
                Check.due("same " + i + " " + j, curve.same(sum, second), i == j);
                if (j != 0) {
                    curve.addFlat(sum, flat(curve, b.mod(Q)));
                    Check.due(i + " + " + j, bytes(curve, sum), due(a.add(b)));
                }
                curve.clearTerms();
                curve.addTerm(flat(curve, BigInteger.valueOf(5)), words(a.mod(Q)));
                curve.addTerm(flat(curve, BigInteger.valueOf(5)), words(b.mod(Q)));
                curve.sumTerms(sum);
                Check.due("5 * " + i + " + 5 * " + j, bytes(curve, sum), due(a.add(b).multiply(BigInteger.valueOf(5))));
            }
        }
        ThresholdBench.Point zero = new ThresholdBench.Point();
        curve.clearTerms();
        curve.sumTerms(zero);
        Check.due("no term", zero.zero, true);
        curve.twice(zero);
        Check.due("twice ZERO", zero.zero, true);
        curve.flatten(zero);
        Check.due("ZERO stays", zero.zero, true);
    }

    private static void productsWithG() {
        ThresholdBench.Curve curve = new ThresholdBench.Curve();
        for (int tooth = 1; tooth < 16; tooth++) {
            BigInteger factor = BigInteger.ZERO;
            for (int k = 0; k < 4; k++) {
                factor = (tooth >> k & 1) == 1 ? factor.setBit(64 * k) : factor;
            }
            Check.due("tooth " + tooth, bytes(curve, flat(curve, factor)), due(factor));
        }
        for (int turn = 0; turn < 60; turn++) {
            BigInteger factor = scalar(turn);
            Check.due(factor + " * G", bytes(curve, flat(curve, factor)), due(factor));
            if (factor.signum() != 0) {
                ThresholdBench.Point sum = new ThresholdBench.Point();
                BigInteger times = scalar(RANDOM.nextInt(10));
                curve.clearTerms();
                curve.addTerm(flat(curve, factor), words(times));
                curve.sumTerms(sum);
                Check.due(times + " * " + factor + " * G", bytes(curve, sum), due(times.multiply(factor)));
            }
        }
    }

    private static void pointBytes() {
        ThresholdBench.Curve curve = new ThresholdBench.Curve();
        for (int turn = 0; turn < 400; turn++) {
            BigInteger x = turn < 60 ? BigInteger.valueOf(turn)
                : turn < 120 ? P.add(BigInteger.valueOf(turn - 90)) : new BigInteger(256, RANDOM);
            for (int head = 0; head <= 5; head++) {
                byte[] given = Reference.join(new byte[] {(byte) head}, Reference.bytes(x));
                ThresholdBench.Row row = new ThresholdBench.Row(65);
                for (byte b : given) {
                    row.put(b);
                }
                ThresholdBench.Point point = new ThresholdBench.Point();
                BigInteger[] want = Reference.point(given);
                Check.due("is a point", curve.read(point, row), want != null);
                if (want != null) {
                    Check.due("x", value(point.x).toString(16), want[0].toString(16));
                    Check.due("y", value(point.y).toString(16), want[1].toString(16));
                    Check.due("z", value(point.z).toString(16), "1");
                    Check.due("zero", point.zero, false);
                }
            }
        }
    }
}
