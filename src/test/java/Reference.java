import java.io.ByteArrayOutputStream;
import java.math.BigInteger;
import java.nio.charset.StandardCharsets;
import java.security.MessageDigest;
import java.security.NoSuchAlgorithmException;
import java.util.Arrays;
import java.util.HashMap;
import java.util.List;
import java.util.Map;

/** The document once more, word by word, with the Java library's numbers and digest: slow and plain. */
final class Reference {
    static final BigInteger P = BigInteger.TWO.pow(256).subtract(BigInteger.TWO.pow(32)).subtract(BigInteger.valueOf(977));
    static final BigInteger Q = new BigInteger(
        "115792089237316195423570985008687907852837564279074904382605163141518161494337");
    static final BigInteger[] G = {
        new BigInteger("55066263022277343669578718895168534326250603453777594175500187360389116729240"),
        new BigInteger("32670510020758816978083085130507043184471273380659243275938904335757337482424")
    };
    private static final Map<List<BigInteger>, BigInteger[]> KNOWN = new HashMap<>();
    private static final String C = "FROST-secp256k1-SHA256-v1";

    byte[] tape = {};
    byte[] message = {};
    byte[] output = {};
    int t;
    int n;
    BigInteger[][] coefficientPoints;
    final BigInteger[] secrets = new BigInteger[9];
    final BigInteger[][] keys = new BigInteger[9][];
    final BigInteger[][] nonces = new BigInteger[9][];
    final BigInteger[][][] commitments = new BigInteger[9][][];
    int set;
    BigInteger[][][] setCommitments;
    final BigInteger[] factors = new BigInteger[9];
    final BigInteger[] weights = new BigInteger[9];
    final BigInteger[] shares = new BigInteger[9];
    BigInteger[] r;
    BigInteger challenge;

    int feed(int count, int a, int b, int c, int d, int e) {
        if (count < 0 || count > 20 || tape.length + count > 300) {
            return -1;
        }
        byte[] all = new byte[20];
        int[] words = {a, b, c, d, e};
        for (int k = 0; k < 20; k++) {
            all[k] = (byte) (words[k / 4] >> (24 - 8 * (k % 4)));
        }
        tape = join(tape, Arrays.copyOf(all, count));
        return tape.length;
    }

    private byte[] takeTape() {
        byte[] had = tape;
        tape = new byte[0];
        return had;
    }

    int message() {
        if (tape.length > 100) {
            throw new IllegalArgumentException();
        }
        message = takeTape();
        endSet();
        return message.length;
    }

    private void endSet() {
        set = 0;
        Arrays.fill(shares, null);
        Arrays.fill(factors, null);
        Arrays.fill(weights, null);
    }

    void deal(int newT, int newN) {
        byte[] had = takeTape();
        if (newT < 2 || newN < newT || newN > 8 || had.length != 32 * newT) {
            throw new IllegalArgumentException();
        }
        BigInteger[] a = new BigInteger[newT];
        for (int k = 0; k < newT; k++) {
            a[k] = number(had, 32 * k, 32);
            if (a[k].signum() == 0 || a[k].compareTo(Q) >= 0) {
                throw new IllegalArgumentException();
            }
        }
        BigInteger[] values = new BigInteger[9];
        for (int i = 1; i <= newN; i++) {
            values[i] = BigInteger.ZERO;
            for (int k = 0; k < newT; k++) {
                values[i] = values[i].add(a[k].multiply(BigInteger.valueOf(i).pow(k))).mod(Q);
            }
            if (values[i].signum() == 0) {
                throw new IllegalArgumentException();
            }
        }
        t = newT;
        n = newN;
        coefficientPoints = new BigInteger[t][];
        for (int k = 0; k < t; k++) {
            coefficientPoints[k] = times(a[k], G);
        }
        for (int i = 1; i <= 8; i++) {
            secrets[i] = values[i];
            keys[i] = i <= n ? times(values[i], G) : null;
            nonces[i] = null;
            commitments[i] = null;
        }
        endSet();
    }

    boolean change(int i) {
        byte[] had = takeTape();
        dealt();
        participant(i);
        if (had.length != 32 || number(had, 0, 32).compareTo(Q) >= 0) {
            throw new IllegalArgumentException();
        }
        secrets[i] = number(had, 0, 32);
        BigInteger[] sum = null;
        for (int k = 0; k < t; k++) {
            sum = sum(sum, times(BigInteger.valueOf(i).pow(k), coefficientPoints[k]));
        }
        return Arrays.equals(times(secrets[i], G), sum);
    }

    void commit(int i) {
        byte[] had = takeTape();
        dealt();
        participant(i);
        if (had.length != 64) {
            throw new IllegalArgumentException();
        }
        BigInteger[] two = new BigInteger[2];
        for (int k = 0; k < 2; k++) {
            two[k] = expand(join(Arrays.copyOfRange(had, 32 * k, 32 * k + 32), bytes(secrets[i])), "nonce");
            if (two[k].signum() == 0) {
                throw new IllegalArgumentException();
            }
        }
        nonces[i] = two;
        commitments[i] = new BigInteger[][] {times(two[0], G), times(two[1], G)};
        endSet();
    }

    void choose(int newSet) {
        dealt();
        if ((newSet & ~committed()) != 0 || Integer.bitCount(newSet) < t) {
            throw new IllegalArgumentException();
        }
        byte[] list = {};
        for (int i = 1; i <= 8; i++) {
            if (in(newSet, i)) {
                list = join(list, bytes(BigInteger.valueOf(i)), bytes(commitments[i][0]), bytes(commitments[i][1]));
            }
        }
        BigInteger[] newR = null;
        BigInteger[] newFactors = new BigInteger[9];
        for (int i = 1; i <= 8; i++) {
            if (in(newSet, i)) {
                newFactors[i] = expand(join(bytes(coefficientPoints[0]), sha(text(C + "msg"), message),
                    sha(text(C + "com"), list), bytes(BigInteger.valueOf(i))), "rho");
                newR = sum(newR, sum(commitments[i][0], times(newFactors[i], commitments[i][1])));
            }
        }
        if (newR == null) {
            throw new IllegalArgumentException();
        }
        endSet();
        set = newSet;
        setCommitments = commitments.clone();
        r = newR;
        challenge = challenge(r);
        for (int i = 1; i <= 8; i++) {
            factors[i] = newFactors[i];
            weights[i] = in(set, i) ? weight(i) : null;
        }
        output = bytes(r);
    }

    private BigInteger weight(int i) {
        BigInteger product = BigInteger.ONE;
        for (int j = 1; j <= 8; j++) {
            if (j != i && in(set, j)) {
                BigInteger below = BigInteger.valueOf(j - i).mod(Q).modInverse(Q);
                product = product.multiply(BigInteger.valueOf(j)).multiply(below).mod(Q);
            }
        }
        return product;
    }

    void share(int i) {
        shareDue(i);
        shares[i] = nonces[i][0].add(nonces[i][1].multiply(factors[i]))
            .add(weights[i].multiply(secrets[i]).multiply(challenge)).mod(Q);
        nonces[i] = null;
        commitments[i] = null;
        output = bytes(shares[i]);
    }

    void other(int i) {
        byte[] had = takeTape();
        shareDue(i);
        if (had.length != 32) {
            throw new IllegalArgumentException();
        }
        shares[i] = number(had, 0, 32);
    }

    private void shareDue(int i) {
        chosen();
        participant(i);
        if (!in(set, i) || shares[i] != null) {
            throw new IllegalArgumentException();
        }
    }

    boolean right(int i) {
        chosen();
        participant(i);
        if (shares[i] == null) {
            throw new IllegalArgumentException();
        }
        if (shares[i].compareTo(Q) >= 0) {
            return false;
        }
        BigInteger[] want = sum(setCommitments[i][0], times(factors[i], setCommitments[i][1]));
        want = sum(want, times(challenge.multiply(weights[i]).mod(Q), keys[i]));
        return Arrays.equals(times(shares[i], G), want);
    }

    int gather() {
        chosen();
        BigInteger z = BigInteger.ZERO;
        boolean all = true;
        for (int i = 1; i <= 8; i++) {
            if (in(set, i)) {
                all &= shares[i] != null && shares[i].compareTo(Q) < 0;
                z = all ? z.add(shares[i]).mod(Q) : z;
            }
        }
        if (all && holds(r, z)) {
            output = join(bytes(r), bytes(z));
            return 0;
        }
        int bad = 0;
        for (int i = 1; i <= 8; i++) {
            if (in(set, i) && (shares[i] == null || !right(i))) {
                bad |= 1 << (i - 1);
            }
        }
        return bad;
    }

    boolean holds() {
        byte[] had = takeTape();
        dealt();
        if (had.length != 65) {
            return false;
        }
        BigInteger[] point = point(Arrays.copyOf(had, 33));
        BigInteger z = number(had, 33, 32);
        return point != null && z.compareTo(Q) < 0 && holds(point, z);
    }

    private boolean holds(BigInteger[] point, BigInteger z) {
        return Arrays.equals(times(z, G), sum(point, times(challenge(point), coefficientPoints[0])));
    }

    private BigInteger challenge(BigInteger[] point) {
        return expand(join(bytes(point), bytes(coefficientPoints[0]), message), "chal");
    }

    int show(int what, int i) {
        byte[] shown = shown(what, i);
        if (shown == null) {
            return 0;
        }
        output = shown;
        return shown.length;
    }

    private byte[] shown(int what, int i) {
        boolean there = i >= 1 && i <= n;
        switch (what) {
            case 0: return n > 0 ? bytes(coefficientPoints[0]) : null;
            case 1: return there ? bytes(keys[i]) : null;
            case 2: return there ? bytes(secrets[i]) : null;
            case 3: return i >= 0 && i < t ? bytes(coefficientPoints[i]) : null;
            case 4: return there && commitments[i] != null
                ? join(bytes(commitments[i][0]), bytes(commitments[i][1])) : null;
            case 5: return there && in(set, i) ? bytes(factors[i]) : null;
            case 6: return set != 0 ? bytes(challenge) : null;
            case 7: return there && in(set, i) ? bytes(weights[i]) : null;
            case 8: return sha(message);
            default: return null;
        }
    }

    int output(int k) {
        return k >= 0 && k < output.length ? output[k] & 255 : -1;
    }

    int about(int what) {
        int[] all = {t, n, committed(), set, given(), tape.length, message.length, output.length};
        return what >= 0 && what < all.length ? all[what] : 0;
    }

    int committed() {
        int bits = 0;
        for (int i = 1; i <= 8; i++) {
            bits |= commitments[i] != null ? 1 << (i - 1) : 0;
        }
        return bits;
    }

    private int given() {
        int bits = 0;
        for (int i = 1; i <= 8; i++) {
            bits |= shares[i] != null ? 1 << (i - 1) : 0;
        }
        return bits;
    }

    private void dealt() {
        if (n == 0) {
            throw new IllegalStateException();
        }
    }

    private void chosen() {
        if (set == 0) {
            throw new IllegalStateException();
        }
    }

    private void participant(int i) {
        if (i < 1 || i > n) {
            throw new IndexOutOfBoundsException();
        }
    }

    private static boolean in(int bits, int i) {
        return i >= 1 && i <= 8 && (bits >> (i - 1) & 1) == 1;
    }

    static BigInteger[] sum(BigInteger[] a, BigInteger[] b) {
        if (a == null || b == null) {
            return a == null ? b : a;
        }
        if (a[0].equals(b[0]) && a[1].add(b[1]).equals(P)) {
            return null;
        }
        BigInteger m = a[0].equals(b[0])
            ? a[0].multiply(a[0]).multiply(BigInteger.valueOf(3)).multiply(a[1].shiftLeft(1).modInverse(P))
            : b[1].subtract(a[1]).multiply(b[0].subtract(a[0]).mod(P).modInverse(P));
        BigInteger x = m.multiply(m).subtract(a[0]).subtract(b[0]).mod(P);
        return new BigInteger[] {x, m.multiply(a[0].subtract(x)).subtract(a[1]).mod(P)};
    }

    /** Runs that are made anew ask for the same products many times, and each takes milliseconds. */
    static BigInteger[] times(BigInteger s, BigInteger[] point) {
        if (point == null) {
            return null;
        }
        List<BigInteger> asked = List.of(s, point[0], point[1]);
        BigInteger[] known = KNOWN.get(asked);
        if (known == null && !KNOWN.containsKey(asked)) {
            known = reckonTimes(s, point);
            KNOWN.put(asked, known);
        }
        return known;
    }

    private static BigInteger[] reckonTimes(BigInteger s, BigInteger[] point) {
        BigInteger[] sum = null;
        for (int bit = s.bitLength() - 1; bit >= 0; bit--) {
            sum = sum(sum, sum);
            if (s.testBit(bit)) {
                sum = sum(sum, point);
            }
        }
        return sum;
    }

    /** The point that the 33 bytes are, or null. */
    static BigInteger[] point(byte[] row) {
        BigInteger x = number(row, 1, 32);
        if ((row[0] != 2 && row[0] != 3) || x.compareTo(P) >= 0) {
            return null;
        }
        BigInteger square = x.pow(3).add(BigInteger.valueOf(7)).mod(P);
        BigInteger y = square.modPow(P.add(BigInteger.ONE).shiftRight(2), P);
        if (!y.multiply(y).mod(P).equals(square)) {
            return null;
        }
        return new BigInteger[] {x, y.testBit(0) == (row[0] == 3) ? y : P.subtract(y)};
    }

    static byte[] sha(byte[]... parts) {
        try {
            return MessageDigest.getInstance("SHA-256").digest(join(parts));
        } catch (NoSuchAlgorithmException e) {
            throw new AssertionError(e);
        }
    }

    static BigInteger expand(byte[] m, String tag) {
        byte[] d = text(C + tag);
        byte[] domain = join(d, new byte[] {(byte) d.length});
        byte[] b0 = sha(new byte[64], m, new byte[] {0, 48, 0}, domain);
        byte[] b1 = sha(b0, new byte[] {1}, domain);
        byte[] either = new byte[32];
        for (int k = 0; k < 32; k++) {
            either[k] = (byte) (b0[k] ^ b1[k]);
        }
        byte[] b2 = sha(either, new byte[] {2}, domain);
        return number(join(b1, b2), 0, 48).mod(Q);
    }

    static byte[] text(String words) {
        return words.getBytes(StandardCharsets.US_ASCII);
    }

    static BigInteger number(byte[] row, int from, int count) {
        return new BigInteger(1, Arrays.copyOfRange(row, from, from + count));
    }

    static byte[] bytes(BigInteger number) {
        byte[] out = new byte[32];
        for (int k = 0; k < 32; k++) {
            out[31 - k] = number.shiftRight(8 * k).byteValue();
        }
        return out;
    }

    static byte[] bytes(BigInteger[] point) {
        return join(new byte[] {(byte) (point[1].testBit(0) ? 3 : 2)}, bytes(point[0]));
    }

    static byte[] join(byte[]... parts) {
        ByteArrayOutputStream all = new ByteArrayOutputStream();
        for (byte[] part : parts) {
            all.writeBytes(part);
        }
        return all.toByteArray();
    }
}
