import java.math.BigInteger;

/**
 * Runs in which 1's right share is the number that a test wants. Nonces hang on the secret that a participant has when
 * it commits, and change() can make that one the same whatever was dealt; binding factors and challenge hang on a0
 * alone then, so that an a1 can be reckoned which leads to the share.
 */
final class Aimed extends Runs {
    private static final BigInteger A0 = BigInteger.valueOf(5);
    private static final BigInteger SECRET_TO_COMMIT = BigInteger.valueOf(101);

    /** 1 and 3 are chosen of three; both have what was dealt to them as their secrets again. */
    final Bench x = new Bench();

    private Aimed(BigInteger secretOf1) {
        BigInteger a1 = secretOf1.subtract(A0).mod(Reference.Q);
        x.feed(hex(A0) + hex(a1));
        x.deal(2, 3);
        x.feed("74657374");
        x.message();
        for (int i = 1; i <= 3; i += 2) {
            x.feed(hex(SECRET_TO_COMMIT));
            x.change(i);
            x.feed(chance(i));
            x.commit(i);
        }
        x.choose(5);
        for (int i = 1; i <= 3; i += 2) {
            x.feed(hex(a1.multiply(BigInteger.valueOf(i)).add(A0).mod(Reference.Q)));
            Check.due("aimed: the dealt secret fits", x.change(i), true);
        }
    }

    static BigInteger hiding() {
        return nonce(1, 0, SECRET_TO_COMMIT);
    }

    static BigInteger binding() {
        return nonce(1, 1, SECRET_TO_COMMIT);
    }

    /** Binding times binding factor. */
    static BigInteger bound() {
        return binding().multiply(number(new Aimed(BigInteger.TEN).x.shown(5, 1))).mod(Reference.Q);
    }

    static Aimed atSecret(BigInteger secret) {
        return new Aimed(secret);
    }

    /** weight * secret * challenge is the part. */
    static Aimed atKeyPart(BigInteger part) {
        Bench any = new Aimed(BigInteger.TEN).x;
        BigInteger times = number(any.shown(6, 0)).multiply(number(any.shown(7, 1)));
        return new Aimed(part.multiply(times.modInverse(Reference.Q)).mod(Reference.Q));
    }

    static Aimed atShare(BigInteger share) {
        return atKeyPart(share.subtract(hiding()).subtract(bound()));
    }
}
