import java.math.BigInteger;
import java.util.Arrays;
import java.util.Random;

/** Runs of calls, drawn with fixed seeds, on the program and on the reference: every answer and state must agree. */
final class RandomRunsTest {
    private static final int RUNS = 60;
    private static final int STEPS = 60;
    /** A call, what about() tells, and some bytes of the output. */
    private static final int CALLS_A_LOOK = 1 + 10 + 5;
    private static final int ROOM_FOR_OUTPUT = 70;

    private final Bench x = new Bench();
    private final Reference y = new Reference();
    private final Random random;
    private final String run;
    private String calls = "";

    private RandomRunsTest(int seed) {
        random = new Random(seed);
        run = "run " + seed;
    }

    public static void main(String[] args) {
        for (int seed = 1; seed <= RUNS && Check.allRight(); seed++) {
            new RandomRunsTest(seed).go();
        }
        Check.end();
    }

    private void go() {
        for (int step = 0; step < STEPS && Check.allRight(); step++) {
            if (y.n == 0 && random.nextInt(4) != 0 || random.nextInt(60) == 0) {
                dealSome();
            } else {
                step();
            }
        }
        Check.due(run + ":" + calls + " whole output", x.output(), java.util.HexFormat.of().formatHex(y.output));
    }

    private void step() {
        switch (random.nextInt(14)) {
            case 0: messageSome(); break;
            case 1: feedSome(random.nextInt(30) - 4); break;
            case 2: changeSome(); break;
            case 3: case 4: commitSome(); break;
            case 5: case 6: signAll(); break;
            case 7: chooseSome(); break;
            case 8: giveSome(); break;
            case 9: case 10: look(); break;
            case 11: holdsSome(); break;
            case 12: case 13: showSome(); break;
            default: break;
        }
    }

    /** Both make the call, as long as the answers that follow it are among those that count. */
    private void agree(String call, Check.Call mine, Check.Call due) {
        if (agreeOnAnswer(call, mine, due)) {
            for (int what = -1; what <= 8; what++) {
                Check.due(run + ":" + calls + " about(" + what + ")", x.about(what), y.about(what));
            }
            for (int k : new int[] {0, random.nextInt(66), random.nextInt(66), y.output.length - 1, y.output.length}) {
                Check.due(run + ":" + calls + " output(" + k + ")", x.output(k), y.output(k));
            }
        }
    }

    private boolean agreeOnAnswer(String call, Check.Call mine, Check.Call due) {
        if (x.calls() + CALLS_A_LOOK + ROOM_FOR_OUTPUT > Bench.MOST_CALLS) {
            return false;
        }
        calls += " " + call;
        Check.due(run + ":" + calls + " <- the last", Check.answer(mine), Check.answer(due));
        return true;
    }

    private void feedSome(int n) {
        int[] w = {random.nextInt(), random.nextInt(), random.nextInt(), random.nextInt(), random.nextInt()};
        agree("feed(" + n + ", ..)", () -> x.feed(n, w[0], w[1], w[2], w[3], w[4]),
            () -> y.feed(n, w[0], w[1], w[2], w[3], w[4]));
    }

    private void feed(byte[] row) {
        for (int at = 0; at < row.length; at += 20) {
            int n = Math.min(20, row.length - at);
            int[] w = Check.words(row, at, n);
            agreeOnAnswer("feed(" + n + ", ..)", () -> x.feed(n, w[0], w[1], w[2], w[3], w[4]),
                () -> y.feed(n, w[0], w[1], w[2], w[3], w[4]));
        }
    }

    /** 32 bytes: small, near q, near 2^256 or any. */
    private byte[] number() {
        BigInteger small = BigInteger.valueOf(random.nextInt(20));
        switch (random.nextInt(12)) {
            case 0: return Reference.bytes(small);
            case 1: return Reference.bytes(Reference.Q.subtract(small));
            case 2: return Reference.bytes(Reference.Q.add(small));
            case 3: return Reference.bytes(BigInteger.TWO.pow(256).subtract(BigInteger.ONE).subtract(small));
            default: return Reference.bytes(new BigInteger(256, random).mod(Reference.Q));
        }
    }

    private byte[] coefficients(int t) {
        byte[] all = {};
        boolean plain = random.nextInt(4) != 0;
        for (int k = 0; k < t; k++) {
            all = Reference.join(all, plain ? Reference.bytes(new BigInteger(255, random)) : number());
        }
        return all;
    }

    private void dealSome() {
        int n = random.nextInt(12) == 0 ? random.nextInt(12) - 1 : 2 + random.nextInt(7);
        int t = random.nextInt(12) == 0 ? random.nextInt(12) - 1 : 2 + random.nextInt(Math.max(1, n - 1));
        if (random.nextInt(6) != 0) {
            emptyTape();
        }
        feed(coefficients(Math.max(0, t)));
        agree("deal(" + t + ", " + n + ")", () -> { x.deal(t, n); return 0; }, () -> { y.deal(t, n); return 0; });
    }

    private void emptyTape() {
        agree("holds()", x::holds, y::holds);
    }

    private void messageSome() {
        byte[] row = new byte[random.nextInt(8) == 0 ? 98 + random.nextInt(6) : random.nextInt(70)];
        random.nextBytes(row);
        feed(row);
        agree("message()", x::message, y::message);
    }

    private int someone() {
        return random.nextInt(10) == 0 ? random.nextInt(12) - 1 : 1 + random.nextInt(Math.max(1, y.n));
    }

    private void changeSome() {
        int i = someone();
        boolean back = i >= 1 && i <= y.n && random.nextInt(3) != 0;
        feed(back ? Reference.bytes(dealtSecret(i)) : number());
        agree("change(" + i + ")", () -> x.change(i), () -> y.change(i));
    }

    private final BigInteger[] firstSecrets = new BigInteger[9];
    private BigInteger[][] secretsOf;

    /** What was dealt to i, or what it has now if that is not known any more. */
    private BigInteger dealtSecret(int i) {
        if (secretsOf != y.coefficientPoints) {
            secretsOf = y.coefficientPoints;
            System.arraycopy(y.secrets, 0, firstSecrets, 0, 9);
        }
        return firstSecrets[i];
    }

    private void commitSome() {
        int i = someone();
        feed(Reference.join(number(), number()));
        agree("commit(" + i + ")", () -> { x.commit(i); return 0; }, () -> { y.commit(i); return 0; });
    }

    private void chooseSome() {
        int set = random.nextInt(3) == 0 ? random.nextInt(600) - 10 : y.committed() & (random.nextInt() | random.nextInt());
        agree("choose(" + set + ")", () -> { x.choose(set); return 0; }, () -> { y.choose(set); return 0; });
    }

    private void giveSome() {
        int i = someone();
        if (random.nextBoolean()) {
            agree("share(" + i + ")", () -> { x.share(i); return 0; }, () -> { y.share(i); return 0; });
            return;
        }
        boolean known = i >= 1 && i <= y.n && y.set != 0 && y.nonces[i] != null && y.factors[i] != null;
        feed(known && random.nextBoolean() ? Reference.bytes(rightShare(i)) : number());
        agree("other(" + i + ")", () -> { x.other(i); return 0; }, () -> { y.other(i); return 0; });
    }

    private BigInteger rightShare(int i) {
        return y.nonces[i][0].add(y.nonces[i][1].multiply(y.factors[i]))
            .add(y.weights[i].multiply(y.secrets[i]).multiply(y.challenge)).mod(Reference.Q);
    }

    /** All that are missing commit, all of some set sign, two of them perhaps wrong by amounts that cancel out. */
    private void signAll() {
        if (y.n == 0) {
            return;
        }
        for (int i = 1; i <= y.n; i++) {
            int who = i;
            if ((y.committed() >> (i - 1) & 1) == 0 && random.nextInt(8) != 0) {
                if (y.tape.length != 0) {
                    emptyTape();
                }
                feed(Reference.join(number(), number()));
                agree("commit(" + i + ")", () -> { x.commit(who); return 0; }, () -> { y.commit(who); return 0; });
            }
        }
        int set = y.committed();
        agree("choose(" + set + ")", () -> { x.choose(set); return 0; }, () -> { y.choose(set); return 0; });
        BigInteger shift = random.nextInt(3) == 0 ? new BigInteger(100, random) : BigInteger.ZERO;
        for (int i = 1; i <= y.n && y.set == set; i++) {
            int who = i;
            if ((set >> (i - 1) & 1) == 0 || random.nextInt(20) == 0) {
                continue;
            }
            if (shift.signum() == 0) {
                agree("share(" + i + ")", () -> { x.share(who); return 0; }, () -> { y.share(who); return 0; });
            } else {
                feed(Reference.bytes(rightShare(i).add(shift).mod(Reference.Q)));
                shift = random.nextInt(4) == 0 ? shift : shift.negate();
                agree("other(" + i + ")", () -> { x.other(who); return 0; }, () -> { y.other(who); return 0; });
            }
        }
        agree("gather()", x::gather, y::gather);
        if (y.output.length == 65) {
            holds(y.output);
        }
    }

    private void look() {
        if (random.nextInt(3) == 0) {
            agree("gather()", x::gather, y::gather);
        } else {
            int i = someone();
            agree("right(" + i + ")", () -> x.right(i), () -> y.right(i));
        }
    }

    private void holds(byte[] row) {
        feed(row);
        agree("holds()", x::holds, y::holds);
    }

    private void holdsSome() {
        byte[] row = y.output.length == 65 ? y.output.clone() : new byte[65];
        if (y.output.length != 65) {
            random.nextBytes(row);
            row[0] = (byte) random.nextInt(5);
        }
        if (random.nextInt(3) == 0) {
            row[random.nextInt(65)] ^= (byte) (1 << random.nextInt(8));
        }
        if (random.nextInt(6) == 0) {
            row = Arrays.copyOf(row, 60 + random.nextInt(10));
        }
        holds(row);
    }

    private void showSome() {
        int what = random.nextInt(11) - 1;
        int i = someone();
        agree("show(" + what + ", " + i + ")", () -> x.show(what, i), () -> y.show(what, i));
    }
}
