import java.lang.reflect.Field;
import java.math.BigInteger;

/** The runs of WoundedTest: H1 and H2 are 1 here, and a nonce is what its 32 bytes say, modulo q. */
final class WoundedRuns extends Runs {
    private static final BigInteger Q_NUMBER = Reference.Q;
    private static final String ZERO = Check.number(0);
    private static final long A0 = 5;

    private WoundedRuns() {
    }

    public static void main(String[] args) {
        theWound();
        nonceOfZero();
        nonceNextToZero();
        commitmentsThatCancel();
        cancellingAfterAnotherSet();
        cancellingOnTheWay();
        signatureNotBelowQ();
        signatureOfZero();
        signatureBesideItsKey();
        gatheredZero();
        pointNotBelowP();
        Check.end();
    }

    /** A number, or q less if it is negative, as 32 bytes. */
    private static String scalar(long value) {
        return hex(BigInteger.valueOf(value).mod(Q_NUMBER));
    }

    private static String point(long factor) {
        return hexOfPoint(BigInteger.valueOf(factor).mod(Q_NUMBER));
    }

    private static void commit(Bench x, int i, long hiding, long binding) {
        x.feed(scalar(hiding) + scalar(binding));
        x.commit(i);
    }

    private static boolean holds(Bench x, String signature) {
        x.feed(signature);
        return x.holds();
    }

    private static void theWound() {
        // If this fails, WoundedTest's line does not do what it is for.
        Bench x = dealt(3, A0, 7);
        commit(x, 1, 2, 3);
        commit(x, 3, 4, -6);
        Check.due("commitment", x.shown(4, 3), point(4) + point(-6));
        x.choose(5);
        Check.due("R", x.output(), point(2 + 3 + 4 - 6));
        Check.due("binding factor", x.shown(5, 1), scalar(1));
        Check.due("challenge", x.shown(6, 0), scalar(1));
    }

    private static void nonceOfZero() {
        Check.sentence("Promise 6", "or a nonce is 0");
        Bench fresh = dealt(3, A0, 7);
        Bench committed = dealt(3, A0, 7);
        commit(committed, 1, 2, 3);
        Bench chosen = committed.twin();
        commit(chosen, 3, 4, 5);
        chosen.choose(5);
        chosen.share(3);
        for (Bench x : new Bench[] {fresh, committed, chosen}) {
            for (String zero : new String[] {ZERO, Q}) {
                refusesToCommit(x.twin(), zero + scalar(3));
                refusesToCommit(x.twin(), scalar(3) + zero);
                refusesToCommit(x.twin(), zero + zero);
            }
        }
    }

    private static void refusesToCommit(Bench x, String tape) {
        refusedWithTape(x, tape, "commit(1) by " + tape, () -> { x.commit(1); return 0; }, ARGUMENT);
    }

    private static void nonceNextToZero() {
        Check.sentence("Promise 6", "or a nonce is 0");
        long[] taken = {1, -1};
        for (long hiding : taken) {
            for (long binding : taken) {
                Bench x = dealt(3, A0, 7);
                commit(x, 2, hiding, binding);
                Check.due("commitment", x.shown(4, 2), point(hiding) + point(binding));
            }
        }
        Bench x = dealt(3, A0, 7);
        x.feed(hex(Q_NUMBER.add(BigInteger.ONE)) + MOST);
        x.commit(2);
        Check.due("commitment", x.shown(4, 2), point(1) + hexOfPoint(number(MOST).subtract(Q_NUMBER)));
    }

    /** Hiding and binding of 1, 2, and so on; they come to ZERO in each of these. */
    private static void commitmentsThatCancel() {
        Check.sentence("Promise 7", "or R is ZERO");
        long[][] rows = {
            {2, 3, -2, -3}, {2, 3, -3, -2}, {2, -2, 3, -3}, {1, 1, 1, -3}, {7, 7, -7, -7}, {1, 1, 2, 2, -3, -3},
            {5, -1, 5, -1, -4, -4}, {1, 2, -1, -2, 3, -3}, {1, 1, 1, 1, 1, 1, 1, -7}
        };
        for (long[] row : rows) {
            int many = row.length / 2;
            Bench x = dealt(many + 1, A0, 7);
            for (int i = 1; i <= many; i++) {
                commit(x, i, row[2 * i - 2], row[2 * i - 1]);
            }
            refused(x, "choose of " + many + " that cancel", chooseOf(x, (1 << many) - 1), ARGUMENT);
            Check.due("there is no set", x.about(3), 0);
            commit(x, many + 1, 11, 12);
            x.choose((2 << many) - 1);
            Check.due("R of one more", x.output(), point(23));
        }
    }

    private static Check.Call chooseOf(Bench x, int set) {
        return () -> { x.choose(set); return 0; };
    }

    private static void cancellingAfterAnotherSet() {
        Check.sentence("Terms", "What throws changes nothing but the tape");
        Bench x = dealt(3, A0, 7);
        commit(x, 1, 2, 3);
        commit(x, 2, 4, 5);
        commit(x, 3, -2, -3);
        x.choose(3);
        x.feed(scalar(9));
        x.other(1);
        x.feed("0102");
        refused(x, "choose(5), R being ZERO", chooseOf(x, 5), ARGUMENT);
        Check.due("the set stays", x.about(3), 3);
        Check.due("who has given stays", x.about(4), 1);
        Check.due("the weight stays", x.shown(7, 2), scalar(-1));
        x.choose(7);
        Check.due("R of all", x.output(), point(9));
    }

    /** Sums that come to ZERO, or to a point twice, before all is added. */
    private static void cancellingOnTheWay() {
        Check.sentence("Terms", "The sum of P and ZERO is P; of (x, y) and (x, p - y) ZERO");
        long[][] rows = {
            {1, 1, 1, 1}, {1, 2, 3, -2}, {3, 1, -3, 1}, {-2, 1, 1, 1}, {2, 1, 4, 1}, {1, 1, -1, 1}, {4, 2, 9, -1}
        };
        for (long[] row : rows) {
            Bench x = dealt(2, A0, 7);
            commit(x, 1, row[0], row[1]);
            commit(x, 2, row[2], row[3]);
            x.choose(3);
            Check.due("R", x.output(), point(row[0] + row[1] + row[2] + row[3]));
            x.share(1);
            Check.due("share", x.output(), scalar(row[0] + row[1] + 2 * 12));
            x.share(2);
            Check.due("share", x.output(), scalar(row[2] + row[3] - 19));
            Check.due("right(1)", x.right(1), true);
            Check.due("right(2)", x.right(2), true);
            Check.due("gather", x.gather(), 0);
        }
    }

    private static void signatureNotBelowQ() {
        Check.sentence("Terms", "the second below q");
        Bench x = dealt(3, A0, 7);
        BigInteger most = number(MOST).subtract(Q_NUMBER);
        for (BigInteger z : new BigInteger[] {BigInteger.ONE, BigInteger.TEN, most.subtract(BigInteger.ONE), most}) {
            String commitment = hexOfPoint(z.subtract(BigInteger.valueOf(A0)).mod(Q_NUMBER));
            Check.due("holds, z being " + z, holds(x, commitment + hex(z)), true);
            Check.due("holds, z being q more", holds(x, commitment + hex(z.add(Q_NUMBER))), false);
        }
        Check.due("holds, z being q - 1", holds(x, point(-1 - A0) + BELOW_Q), true);
    }

    private static void signatureOfZero() {
        Check.sentence("Terms", "of (x, y) and (x, p - y) ZERO");
        Bench x = dealt(3, A0, 7);
        Check.due("z 0", holds(x, point(-A0) + ZERO), true);
        Check.due("z 1", holds(x, point(-A0) + scalar(1)), false);
        Check.due("z q - 1", holds(x, point(-A0) + BELOW_Q), false);
        Check.due("z q", holds(x, point(-A0) + Q), false);
        Check.due("z 0, another R", holds(x, point(-A0 - 1) + ZERO), false);
        Check.due("z 0, R with the other y", holds(x, point(A0) + ZERO), false);
    }

    private static void signatureBesideItsKey() {
        Check.sentence("Terms", "3 * x * x / (2 * y) if they are the same");
        Bench x = dealt(3, A0, 7);
        Check.due("R is the key", holds(x, point(A0) + scalar(2 * A0)), true);
        Check.due("R is the key, z another", holds(x, point(A0) + scalar(A0)), false);
    }

    private static void gatheredZero() {
        Check.sentence("Promise 11", "it is output (65 bytes): 0");
        Bench x = dealt(3, A0, 7);
        commit(x, 1, 1, 1);
        commit(x, 3, 1, -8);
        x.choose(5);
        x.share(1);
        Check.due("share", x.output(), scalar(1 + 1 + 18));
        x.share(3);
        Check.due("share", x.output(), scalar(1 - 8 - 13));
        Check.due("gather", x.gather(), 0);
        Check.due("signature", x.output(), point(-A0) + ZERO);
        Check.due("it holds", holds(x, point(-A0) + ZERO), true);
    }

    /** The factor of a point with a small x is not known, so the key is put where the two make up a known one. */
    private static void pointNotBelowP() {
        Check.sentence("Terms", "the points (x, y), 0 .. p - 1 each");
        int z = 77;
        for (String head : new String[] {"02", "03"}) {
            BigInteger[] small = Reference.point(Check.bytes(head + scalar(1)));
            BigInteger[] opposite = {small[0], Reference.P.subtract(small[1])};
            BigInteger[] key = Reference.sum(Reference.times(BigInteger.valueOf(z), Reference.G), opposite);
            Bench x = dealt(3, A0, 7);
            x.call(inside -> putGroupKey(inside, Reference.bytes(key)));
            Check.due("the key is put", x.shown(0, 0), hex(Reference.bytes(key)));
            Check.due("holds, x being 1", holds(x, head + scalar(1) + scalar(z)), true);
            String above = hex(Reference.P.add(BigInteger.ONE));
            Check.due("holds, x being p + 1", holds(x, head + above + scalar(z)), false);
        }
    }

    private static int putGroupKey(ThresholdBench inside, byte[] key) {
        try {
            Field field = ThresholdBench.class.getDeclaredField("coefficientPoints");
            field.setAccessible(true);
            ThresholdBench.Row row = new ThresholdBench.Row(key.length);
            for (byte one : key) {
                row.put(one);
            }
            new ThresholdBench.Curve().read(((ThresholdBench.Point[]) field.get(inside))[0], row);
            return 0;
        } catch (ReflectiveOperationException e) {
            throw new AssertionError(e);
        }
    }
}
