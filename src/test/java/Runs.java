import java.math.BigInteger;
import java.util.HexFormat;

/** What the tests of the promises have in common: runs of calls that lead somewhere, and calls that are refused. */
abstract class Runs {
    static final Class<IllegalStateException> STATE = IllegalStateException.class;
    static final Class<IndexOutOfBoundsException> INDEX = IndexOutOfBoundsException.class;
    static final Class<IllegalArgumentException> ARGUMENT = IllegalArgumentException.class;
    static final String Q = hex(Reference.Q);
    static final String BELOW_Q = hex(Reference.Q.subtract(BigInteger.ONE));
    static final String MOST = "ff".repeat(32);
    static final int[] EDGES = {0, -1, 9, 33, Integer.MAX_VALUE, Integer.MIN_VALUE};

    static String hex(BigInteger number) {
        return HexFormat.of().formatHex(Reference.bytes(number));
    }

    static String hex(byte[] row) {
        return HexFormat.of().formatHex(row);
    }

    static String hexOfPoint(BigInteger factor) {
        return hex(Reference.bytes(Reference.times(factor, Reference.G)));
    }

    static BigInteger number(String hex) {
        return new BigInteger(hex, 16);
    }

    /** 64 bytes that stand for random ones. */
    static String chance(int i) {
        return hex(Reference.sha(Reference.text("hiding " + i))) + hex(Reference.sha(Reference.text("binding " + i)));
    }

    /** The call throws this, and all is as before it, the tape too. */
    static void refused(Bench x, String what, Check.Call call, Class<? extends RuntimeException> want) {
        String tape = x.tape();
        refusedButForTape(x, what, call, want);
        Check.due(what + " leaves the tape", x.tape(), tape);
    }

    /** The call, which takes the tape, throws this; the tape is empty then, and all else is as before it. */
    static void refusedWithTape(Bench x, String tape, String what, Check.Call call,
            Class<? extends RuntimeException> want) {
        x.feed(tape);
        refusedButForTape(x, what, call, want);
        Check.due(what + " empties the tape", x.about(5), 0);
    }

    private static void refusedButForTape(Bench x, String what, Check.Call call,
            Class<? extends RuntimeException> want) {
        String before = x.state();
        String output = x.output();
        Check.throwsDue(what, call, want);
        Check.due(what + " changes nothing", x.state(), before);
        Check.due(what + " leaves the output", x.output(), output);
    }

    static Bench dealt(int n, long... coefficients) {
        Bench x = new Bench();
        for (long coefficient : coefficients) {
            x.feed(Check.number(coefficient));
        }
        x.deal(coefficients.length, n);
        return x;
    }

    static void commit(Bench x, int... who) {
        for (int i : who) {
            x.feed(chance(i));
            x.commit(i);
        }
    }

    /** Two of three are dealt 5 + 7 x, 1 and 3 have committed and are chosen, the message is "test". */
    static Bench chosen() {
        Bench x = dealt(3, 5, 7);
        x.feed("74657374");
        x.message();
        commit(x, 1, 3);
        x.choose(5);
        return x;
    }

    static BigInteger nonce(int i, int which, BigInteger secret) {
        byte[] random = Check.bytes(chance(i).substring(64 * which, 64 * which + 64));
        return Reference.expand(Reference.join(random, Reference.bytes(secret)), "nonce");
    }

    /** i's share as the document says it, from what the object shows. */
    static BigInteger shareOf(Bench x, int i, BigInteger secretAtCommit) {
        BigInteger secret = number(x.shown(2, i));
        BigInteger factor = number(x.shown(5, i));
        BigInteger challenge = number(x.shown(6, 0));
        BigInteger weight = number(x.shown(7, i));
        return nonce(i, 0, secretAtCommit).add(nonce(i, 1, secretAtCommit).multiply(factor))
            .add(weight.multiply(secret).multiply(challenge)).mod(Reference.Q);
    }

    static BigInteger shareOf(Bench x, int i) {
        return shareOf(x, i, number(x.shown(2, i)));
    }

    static void shares(Bench x, int i, BigInteger want, String what) {
        x.share(i);
        Check.due(what, x.output(), hex(want));
    }
}
