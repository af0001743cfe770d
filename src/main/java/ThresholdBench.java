import java.util.Arrays;

/**
 * Threshold signatures in two rounds on one curve: a dealer shares a secret, participants commit and sign,
 * and their shares are put together to one signature. Every array is made with the object, so that no call
 * makes anything but the exception that it may throw.
 */
public final class ThresholdBench {
    public static final int NONE = -1;

    private static final int MOST_PARTICIPANTS = 8;
    private static final int FEWEST_SIGNERS = 2;
    private static final int MOST_FED_AT_ONCE = 20;
    private static final int TAPE_ROOM = 300;
    private static final int MESSAGE_ROOM = 100;
    private static final int NUMBER_BYTES = 32;
    private static final int POINT_BYTES = 33;
    private static final int COMMITMENT_BYTES = 2 * POINT_BYTES;
    private static final int SIGNATURE_BYTES = POINT_BYTES + NUMBER_BYTES;
    private static final int NUMBER_WORDS = 8;
    private static final int EXPANDED_BYTES = 48;

    private Row tape = new Row(TAPE_ROOM);
    private Row taken = new Row(TAPE_ROOM);
    private final Row text = new Row(MESSAGE_ROOM);
    private final Row shown = new Row(COMMITMENT_BYTES);
    private int threshold;
    private int size;
    private int committed;
    private final Participant[] participants = new Participant[MOST_PARTICIPANTS];
    private final Point[] coefficientPoints = new Point[MOST_PARTICIPANTS];
    private Signing signing = new Signing();
    private Signing spare = new Signing();
    private final Scalars scalars = new Scalars();
    private final Curve curve = new Curve();
    private final Digests digests = new Digests();
    private final int[][] drawn = new int[MOST_PARTICIPANTS][NUMBER_WORDS];
    private final int[] first = new int[NUMBER_WORDS];
    private final int[] second = new int[NUMBER_WORDS];
    private final Point left = new Point();
    private final Point otherSide = new Point();

    public ThresholdBench() {
        for (int k = 0; k < MOST_PARTICIPANTS; k++) {
            participants[k] = new Participant();
            coefficientPoints[k] = new Point();
        }
    }

    public int feed(int n, int a, int b, int c, int d, int e) {
        if (n < 0 || n > MOST_FED_AT_ONCE || tape.length + n > TAPE_ROOM) {
            return NONE;
        }
        feedWord(n, a);
        feedWord(n - 4, b);
        feedWord(n - 8, c);
        feedWord(n - 12, d);
        feedWord(n - 16, e);
        return tape.length;
    }

    public int message() throws IllegalArgumentException {
        if (tape.length > MESSAGE_ROOM) {
            throw new IllegalArgumentException();
        }
        takeTape();
        text.clear();
        text.putRow(taken);
        endSet();
        return text.length;
    }

    public void deal(int t, int n) throws IllegalArgumentException {
        takeTape();
        if (t < FEWEST_SIGNERS || n < t || n > MOST_PARTICIPANTS || !drawCoefficients(t) || someSecretIsZero(t, n)) {
            throw new IllegalArgumentException();
        }
        threshold = t;
        size = n;
        committed = 0;
        endSet();
        for (int k = 0; k < t; k++) {
            curve.timesG(coefficientPoints[k], drawn[k]);
            curve.flatten(coefficientPoints[k]);
        }
        for (int i = 1; i <= n; i++) {
            Participant dealtTo = participants[i - 1];
            secretOf(dealtTo.dealt, i, t);
            Words.copy(dealtTo.secret, dealtTo.dealt);
            curve.timesG(dealtTo.key, dealtTo.dealt);
            curve.flatten(dealtTo.key);
        }
    }

    public boolean change(int i) throws IllegalStateException, IndexOutOfBoundsException, IllegalArgumentException {
        takeTape();
        requireDealt();
        requireParticipant(i);
        if (taken.length != NUMBER_BYTES || !Scalars.read(first, taken, 0)) {
            throw new IllegalArgumentException();
        }
        Participant changed = participants[i - 1];
        Words.copy(changed.secret, first);
        // G has the order q, so a secret fits the coefficients' points just if it is the one that was dealt.
        return Words.same(changed.secret, changed.dealt);
    }

    public void commit(int i) throws IllegalStateException, IndexOutOfBoundsException, IllegalArgumentException {
        takeTape();
        requireDealt();
        requireParticipant(i);
        if (taken.length != 2 * NUMBER_BYTES) {
            throw new IllegalArgumentException();
        }
        Participant who = participants[i - 1];
        nonceOf(first, who, 0);
        nonceOf(second, who, NUMBER_BYTES);
        if (Words.isZero(first) || Words.isZero(second)) {
            throw new IllegalArgumentException();
        }
        Words.copy(who.hiding, first);
        Words.copy(who.binding, second);
        curve.timesG(who.hidingPoint, first);
        curve.flatten(who.hidingPoint);
        curve.timesG(who.bindingPoint, second);
        curve.flatten(who.bindingPoint);
        committed |= bitOf(i);
        endSet();
    }

    public void choose(int set) throws IllegalStateException, IllegalArgumentException {
        requireDealt();
        if ((set & ~committed) != 0 || Integer.bitCount(set) < threshold) {
            throw new IllegalArgumentException();
        }
        // All goes to the spare one first: if R is ZERO, the set that was chosen before must stay.
        findFactors(set);
        addCommitments(set);
        if (spare.commitment.zero) {
            throw new IllegalArgumentException();
        }
        curve.flatten(spare.commitment);
        challengeOf(spare.challenge, spare.commitment);
        findWeights(set);
        Signing before = signing;
        signing = spare;
        spare = before;
        signing.set = set;
        signing.given = 0;
        shown.clear();
        Curve.write(shown, signing.commitment);
    }

    public void share(int i) throws IllegalStateException, IndexOutOfBoundsException, IllegalArgumentException {
        requireSet();
        requireParticipant(i);
        requireShareDue(i);
        Participant signer = participants[i - 1];
        int[] given = signing.shares[i - 1];
        scalars.multiplyAndAdd(first, signer.binding, signing.factors[i - 1], signer.hiding);
        scalars.multiply(second, signing.weights[i - 1], signer.secret);
        scalars.multiplyAndAdd(given, second, signing.challenge, first);
        // A nonce that signs twice gives the secret away.
        Arrays.fill(signer.hiding, 0);
        Arrays.fill(signer.binding, 0);
        committed &= ~bitOf(i);
        signing.given |= bitOf(i);
        shown.clear();
        Words.write(shown, given);
    }

    public void other(int i) throws IllegalStateException, IndexOutOfBoundsException, IllegalArgumentException {
        takeTape();
        requireSet();
        requireParticipant(i);
        requireShareDue(i);
        if (taken.length != NUMBER_BYTES) {
            throw new IllegalArgumentException();
        }
        Words.read(signing.shares[i - 1], taken, 0);
        signing.given |= bitOf(i);
    }

    public boolean right(int i) throws IllegalStateException, IndexOutOfBoundsException, IllegalArgumentException {
        requireSet();
        requireParticipant(i);
        if (!isIn(signing.given, i)) {
            throw new IllegalArgumentException();
        }
        return isRight(i);
    }

    public int gather() throws IllegalStateException {
        requireSet();
        if (signing.given == signing.set && addShares(first)
                && isSignature(signing.commitment, first, signing.challenge)) {
            shown.clear();
            Curve.write(shown, signing.commitment);
            Words.write(shown, first);
            return 0;
        }
        int lacking = 0;
        for (int i = 1; i <= size; i++) {
            if (isIn(signing.set, i) && !(isIn(signing.given, i) && isRight(i))) {
                lacking |= bitOf(i);
            }
        }
        return lacking;
    }

    public boolean holds() throws IllegalStateException {
        takeTape();
        requireDealt();
        if (taken.length != SIGNATURE_BYTES || !Scalars.read(first, taken, POINT_BYTES)
                || !curve.read(otherSide, taken)) {
            return false;
        }
        challengeOf(second, otherSide);
        return isSignature(otherSide, first, second);
    }

    public int show(int what, int i) {
        if (!isThere(what, i)) {
            return 0;
        }
        shown.clear();
        switch (what) {
            case 0:
                Curve.write(shown, coefficientPoints[0]);
                break;
            case 1:
                Curve.write(shown, participants[i - 1].key);
                break;
            case 2:
                Words.write(shown, participants[i - 1].secret);
                break;
            case 3:
                Curve.write(shown, coefficientPoints[i]);
                break;
            case 4:
                writeCommitment(shown, participants[i - 1]);
                break;
            case 5:
                Words.write(shown, signing.factors[i - 1]);
                break;
            case 6:
                Words.write(shown, signing.challenge);
                break;
            case 7:
                Words.write(shown, signing.weights[i - 1]);
                break;
            default:
                digests.plain(shown, text);
                break;
        }
        return shown.length;
    }

    public int output(int k) {
        return k >= 0 && k < shown.length ? shown.bytes[k] & 255 : NONE;
    }

    public int about(int what) {
        switch (what) {
            case 0:
                return threshold;
            case 1:
                return size;
            case 2:
                return committed;
            case 3:
                return signing.set;
            case 4:
                return signing.given;
            case 5:
                return tape.length;
            case 6:
                return text.length;
            case 7:
                return shown.length;
            default:
                return 0;
        }
    }

    private void feedWord(int count, int word) {
        for (int k = 0; k < 4 && k < count; k++) {
            tape.put(word >>> (24 - 8 * k));
        }
    }

    /** Empties the tape; what it had is in taken then. */
    private void takeTape() {
        Row full = tape;
        tape = taken;
        taken = full;
        tape.clear();
    }

    private void endSet() {
        signing.set = 0;
        signing.given = 0;
    }

    private void requireDealt() {
        if (size == 0) {
            throw new IllegalStateException();
        }
    }

    private void requireSet() {
        if (signing.set == 0) {
            throw new IllegalStateException();
        }
    }

    private void requireParticipant(int i) {
        if (!isParticipant(i)) {
            throw new IndexOutOfBoundsException();
        }
    }

    private void requireShareDue(int i) {
        if (!isIn(signing.set, i) || isIn(signing.given, i)) {
            throw new IllegalArgumentException();
        }
    }

    private boolean isParticipant(int i) {
        return i >= 1 && i <= size;
    }

    private boolean isIn(int set, int i) {
        return isParticipant(i) && (set & bitOf(i)) != 0;
    }

    private static int bitOf(int i) {
        return 1 << (i - 1);
    }

    /** Whether show(what, i) has something to put out. */
    private boolean isThere(int what, int i) {
        switch (what) {
            case 0:
                return size != 0;
            case 1:
            case 2:
                return isParticipant(i);
            case 3:
                return i >= 0 && i < threshold;
            case 4:
                return isIn(committed, i);
            case 5:
            case 7:
                return isIn(signing.set, i);
            case 6:
                return signing.set != 0;
            default:
                return what == 8;
        }
    }

    private boolean drawCoefficients(int t) {
        if (taken.length != t * NUMBER_BYTES) {
            return false;
        }
        for (int k = 0; k < t; k++) {
            if (!Scalars.read(drawn[k], taken, k * NUMBER_BYTES) || Words.isZero(drawn[k])) {
                return false;
            }
        }
        return true;
    }

    private boolean someSecretIsZero(int t, int n) {
        for (int i = 1; i <= n; i++) {
            secretOf(first, i, t);
            if (Words.isZero(first)) {
                return true;
            }
        }
        return false;
    }

    /** The value at i of the polynomial whose coefficients were drawn. */
    private void secretOf(int[] out, int i, int t) {
        Words.setSmall(second, i);
        Arrays.fill(out, 0);
        for (int k = t - 1; k >= 0; k--) {
            scalars.multiplyAndAdd(out, out, second, drawn[k]);
        }
    }

    private void nonceOf(int[] out, Participant who, int from) {
        Row input = digests.input;
        input.clear();
        input.putPart(taken, from, NUMBER_BYTES);
        Words.write(input, who.secret);
        digests.expand(scalars, out, "nonce");
    }

    private static void writeCommitment(Row out, Participant who) {
        Curve.write(out, who.hidingPoint);
        Curve.write(out, who.bindingPoint);
    }

    /** The spare signing's binding factors, from the commitments as they are now. */
    private void findFactors(int set) {
        Row list = digests.list;
        list.clear();
        for (int i = 1; i <= size; i++) {
            if (isIn(set, i)) {
                writeNumber(list, i);
                writeCommitment(list, participants[i - 1]);
            }
        }
        Row input = digests.input;
        input.clear();
        Curve.write(input, coefficientPoints[0]);
        digests.tagged(input, "msg", text);
        digests.tagged(input, "com", list);
        int common = input.length;
        for (int i = 1; i <= size; i++) {
            if (isIn(set, i)) {
                input.length = common;
                writeNumber(input, i);
                digests.expand(scalars, spare.factors[i - 1], "rho");
            }
        }
    }

    private void writeNumber(Row out, int i) {
        Words.setSmall(first, i);
        Words.write(out, first);
    }

    /** The spare signing's R. */
    private void addCommitments(int set) {
        curve.clearTerms();
        for (int i = 1; i <= size; i++) {
            if (isIn(set, i)) {
                curve.addTerm(participants[i - 1].bindingPoint, spare.factors[i - 1]);
            }
        }
        curve.sumTerms(spare.commitment);
        for (int i = 1; i <= size; i++) {
            if (isIn(set, i)) {
                curve.addFlat(spare.commitment, participants[i - 1].hidingPoint);
            }
        }
    }

    private void challengeOf(int[] out, Point commitment) {
        Row input = digests.input;
        input.clear();
        Curve.write(input, commitment);
        Curve.write(input, coefficientPoints[0]);
        input.putRow(text);
        digests.expand(scalars, out, "chal");
    }

    /** The spare signing's weights. */
    private void findWeights(int set) {
        for (int i = 1; i <= size; i++) {
            if (isIn(set, i)) {
                int above = 1;
                int below = 1;
                for (int j = 1; j <= size; j++) {
                    if (j != i && isIn(set, j)) {
                        above *= j;
                        below *= j - i;
                    }
                }
                scalars.fraction(spare.weights[i - 1], above, below);
            }
        }
    }

    /** Whether the share that i gave is right. */
    private boolean isRight(int i) {
        int[] given = signing.shares[i - 1];
        if (!Scalars.isScalar(given)) {
            return false;
        }
        Participant signer = participants[i - 1];
        scalars.multiply(second, signing.challenge, signing.weights[i - 1]);
        curve.clearTerms();
        curve.addTerm(signer.bindingPoint, signing.factors[i - 1]);
        curve.addTerm(signer.key, second);
        curve.sumTerms(otherSide);
        curve.addFlat(otherSide, signer.hidingPoint);
        curve.timesG(left, given);
        return curve.same(left, otherSide);
    }

    /** The sum of the set's shares, which all have given: whether each is a scalar. */
    private boolean addShares(int[] out) {
        Arrays.fill(out, 0);
        for (int i = 1; i <= size; i++) {
            if (isIn(signing.set, i)) {
                if (!Scalars.isScalar(signing.shares[i - 1])) {
                    return false;
                }
                scalars.add(out, out, signing.shares[i - 1]);
            }
        }
        return true;
    }

    private boolean isSignature(Point commitment, int[] z, int[] challenge) {
        curve.clearTerms();
        curve.addTerm(coefficientPoints[0], challenge);
        curve.sumTerms(left);
        curve.addFlat(left, commitment);
        curve.timesG(otherSide, z);
        return curve.same(left, otherSide);
    }

    /** Bytes, of which the first length are in use. */
    static final class Row {
        final byte[] bytes;
        int length;

        Row(int room) {
            bytes = new byte[room];
        }

        void clear() {
            length = 0;
        }

        void put(int value) {
            if (length < bytes.length) {
                bytes[length] = (byte) value;
                length++;
            }
        }

        void putRow(Row more) {
            putPart(more, 0, more.length);
        }

        void putPart(Row more, int from, int count) {
            for (int k = from; k < from + count && k < more.length; k++) {
                put(more.bytes[k]);
            }
        }
    }

    /** Numbers below 2^256 as eight words, the lowest first. */
    static final class Words {
        static final long WORD = 0xffffffffL;

        static void copy(int[] out, int[] a) {
            System.arraycopy(a, 0, out, 0, NUMBER_WORDS);
        }

        static void setSmall(int[] out, int value) {
            Arrays.fill(out, 0);
            out[0] = value;
        }

        static boolean isZero(int[] a) {
            int any = 0;
            for (int k = 0; k < NUMBER_WORDS; k++) {
                any |= a[k];
            }
            return any == 0;
        }

        static boolean same(int[] a, int[] b) {
            int differing = 0;
            for (int k = 0; k < NUMBER_WORDS; k++) {
                differing |= a[k] ^ b[k];
            }
            return differing == 0;
        }

        static boolean isBelow(int[] a, int[] bound) {
            for (int k = NUMBER_WORDS - 1; k >= 0; k--) {
                if (a[k] != bound[k]) {
                    return (a[k] & WORD) < (bound[k] & WORD);
                }
            }
            return false;
        }

        /** a - b, b being at most a. */
        static void subtract(int[] out, int[] a, int[] b) {
            long carry = 0;
            for (int k = 0; k < NUMBER_WORDS; k++) {
                carry += (a[k] & WORD) - (b[k] & WORD);
                out[k] = (int) carry;
                carry >>= 32;
            }
        }

        static int bit(int[] a, int k) {
            return (a[k >> 5] >>> (k & 31)) & 1;
        }

        static void read(int[] out, Row row, int from) {
            Arrays.fill(out, 0);
            for (int k = 0; k < NUMBER_BYTES && from + k < row.length; k++) {
                int place = NUMBER_BYTES - 1 - k;
                out[place >> 2] |= (row.bytes[from + k] & 255) << (8 * (place & 3));
            }
        }

        static void write(Row out, int[] a) {
            for (int place = NUMBER_BYTES - 1; place >= 0; place--) {
                out.put(a[place >> 2] >>> (8 * (place & 3)));
            }
        }
    }

    /** Arithmetic modulo q. */
    static final class Scalars {
        private static final int[] Q = {
            0xd0364141, 0xbfd25e8c, 0xaf48a03b, 0xbaaedce6, 0xfffffffe, 0xffffffff, 0xffffffff, 0xffffffff
        };
        /** 2^256 - q: what one unit above the eight words is worth below. */
        private static final int[] CARRY_OVER = {0x2fc9bebf, 0x402da173, 0x50b75fc4, 0x45512319, 1};
        private static final int WIDE_WORDS = 16;
        /** 512 bits shrink to 386, 260, 257 and 256. */
        private static final int FOLDS = 4;

        private final int[] wide = new int[WIDE_WORDS];
        private final int[] high = new int[NUMBER_WORDS];

        static boolean isScalar(int[] a) {
            return Words.isBelow(a, Q);
        }

        /** The 32 bytes from there on: whether they are a scalar. */
        static boolean read(int[] out, Row row, int from) {
            Words.read(out, row, from);
            return isScalar(out);
        }

        void multiply(int[] out, int[] a, int[] b) {
            Arrays.fill(wide, 0);
            addProducts(a, b);
            reduce(out);
        }

        /** a * b + c. */
        void multiplyAndAdd(int[] out, int[] a, int[] b, int[] c) {
            Arrays.fill(wide, 0);
            addProducts(a, b);
            addMultiple(0, 1, c);
            reduce(out);
        }

        void add(int[] out, int[] a, int[] b) {
            Arrays.fill(wide, 0);
            addMultiple(0, 1, a);
            addMultiple(0, 1, b);
            reduce(out);
        }

        /** The row's first 48 bytes, modulo q. */
        void readExpanded(int[] out, Row row) {
            Arrays.fill(wide, 0);
            for (int k = 0; k < EXPANDED_BYTES && k < row.length; k++) {
                int place = EXPANDED_BYTES - 1 - k;
                wide[place >> 2] |= (row.bytes[k] & 255) << (8 * (place & 3));
            }
            reduce(out);
        }

        /**
         * above / below, both small: as q is a multiple of no small number, some above + k * q, k less than
         * below, is a multiple of below, and the quotient is a scalar already.
         */
        void fraction(int[] out, int above, int below) {
            long divisor = below < 0 ? -(long) below : below;
            if (divisor == 0) {
                return;
            }
            long rest = 0;
            for (int k = NUMBER_WORDS - 1; k >= 0; k--) {
                rest = ((rest << 32) | (Q[k] & Words.WORD)) % divisor;
            }
            int times = 0;
            while (times < divisor && (above + times * rest) % divisor != 0) {
                times++;
            }
            Arrays.fill(wide, 0);
            wide[0] = above;
            addMultiple(0, times, Q);
            divideWide(divisor);
            System.arraycopy(wide, 0, out, 0, NUMBER_WORDS);
            if (below < 0) {
                Words.subtract(out, Q, out);
            }
        }

        private void divideWide(long divisor) {
            long rest = 0;
            for (int k = NUMBER_WORDS; k >= 0 && divisor != 0; k--) {
                rest = (rest << 32) | (wide[k] & Words.WORD);
                wide[k] = (int) (rest / divisor);
                rest %= divisor;
            }
        }

        private void addProducts(int[] a, int[] b) {
            for (int k = 0; k < NUMBER_WORDS; k++) {
                addMultiple(k, a[k], b);
            }
        }

        /** Adds factor * row to the wide number, from the word at on. */
        private void addMultiple(int at, int factor, int[] row) {
            long times = factor & Words.WORD;
            long carry = 0;
            for (int k = 0; k < row.length && at + k < WIDE_WORDS; k++) {
                carry += times * (row[k] & Words.WORD) + (wide[at + k] & Words.WORD);
                wide[at + k] = (int) carry;
                carry >>>= 32;
            }
            for (int k = at + row.length; k < WIDE_WORDS && carry != 0; k++) {
                carry += wide[k] & Words.WORD;
                wide[k] = (int) carry;
                carry >>>= 32;
            }
        }

        private void reduce(int[] out) {
            for (int fold = 0; fold < FOLDS; fold++) {
                System.arraycopy(wide, NUMBER_WORDS, high, 0, NUMBER_WORDS);
                for (int k = NUMBER_WORDS; k < WIDE_WORDS; k++) {
                    wide[k] = 0;
                }
                for (int k = 0; k < NUMBER_WORDS; k++) {
                    if (high[k] != 0) {
                        addMultiple(k, high[k], CARRY_OVER);
                    }
                }
            }
            System.arraycopy(wide, 0, out, 0, NUMBER_WORDS);
            if (!isScalar(out)) {
                Words.subtract(out, out, Q);
            }
        }
    }

    /**
     * Arithmetic modulo p on ten limbs of 26 bits, the lowest first. Limbs are signed and may be loose: sums
     * and differences are not carried. A product's factors may be a and b times as large as carried limbs, as
     * long as a * b stays below 128, so that a column of ten products stays within a long.
     */
    static final class Field {
        static final int LIMBS = 10;
        private static final int LIMB_BITS = 26;
        private static final long LIMB = (1L << LIMB_BITS) - 1;
        private static final int TOP_BITS = 22;
        private static final long TOP = (1L << TOP_BITS) - 1;
        /** 2^256 is FOLD_LOW + FOLD_NEXT * 2^26 modulo p, and 2^260 sixteen times that. */
        private static final long FOLD_LOW = 977;
        private static final long FOLD_NEXT = 64;

        private final long[] wide = new long[2 * LIMBS];
        private final long[] probe = new long[LIMBS];
        private final long[] power = new long[LIMBS];
        private final long[] ones2 = new long[LIMBS];
        private final long[] ones3 = new long[LIMBS];
        private final long[] ones22 = new long[LIMBS];
        private final long[] ones44 = new long[LIMBS];
        private final long[] ones = new long[LIMBS];

        static void copy(long[] out, long[] a) {
            System.arraycopy(a, 0, out, 0, LIMBS);
        }

        static void setSmall(long[] out, int value) {
            Arrays.fill(out, 0);
            out[0] = value;
        }

        /** m * a + n * b, without carrying. */
        static void mix(long[] out, long m, long[] a, long n, long[] b) {
            for (int k = 0; k < LIMBS; k++) {
                out[k] = m * a[k] + n * b[k];
            }
        }

        void multiply(long[] out, long[] a, long[] b) {
            long a0 = a[0], a1 = a[1], a2 = a[2], a3 = a[3], a4 = a[4];
            long a5 = a[5], a6 = a[6], a7 = a[7], a8 = a[8], a9 = a[9];
            long b0 = b[0], b1 = b[1], b2 = b[2], b3 = b[3], b4 = b[4];
            long b5 = b[5], b6 = b[6], b7 = b[7], b8 = b[8], b9 = b[9];
            long[] w = wide;
            w[0] = a0 * b0;
            w[1] = a0 * b1 + a1 * b0;
            w[2] = a0 * b2 + a1 * b1 + a2 * b0;
            w[3] = a0 * b3 + a1 * b2 + a2 * b1 + a3 * b0;
            w[4] = a0 * b4 + a1 * b3 + a2 * b2 + a3 * b1 + a4 * b0;
            w[5] = a0 * b5 + a1 * b4 + a2 * b3 + a3 * b2 + a4 * b1 + a5 * b0;
            w[6] = a0 * b6 + a1 * b5 + a2 * b4 + a3 * b3 + a4 * b2 + a5 * b1 + a6 * b0;
            w[7] = a0 * b7 + a1 * b6 + a2 * b5 + a3 * b4 + a4 * b3 + a5 * b2 + a6 * b1 + a7 * b0;
            w[8] = a0 * b8 + a1 * b7 + a2 * b6 + a3 * b5 + a4 * b4 + a5 * b3 + a6 * b2 + a7 * b1 + a8 * b0;
            w[9] = a0 * b9 + a1 * b8 + a2 * b7 + a3 * b6 + a4 * b5 + a5 * b4 + a6 * b3 + a7 * b2 + a8 * b1 + a9 * b0;
            w[10] = a1 * b9 + a2 * b8 + a3 * b7 + a4 * b6 + a5 * b5 + a6 * b4 + a7 * b3 + a8 * b2 + a9 * b1;
            w[11] = a2 * b9 + a3 * b8 + a4 * b7 + a5 * b6 + a6 * b5 + a7 * b4 + a8 * b3 + a9 * b2;
            w[12] = a3 * b9 + a4 * b8 + a5 * b7 + a6 * b6 + a7 * b5 + a8 * b4 + a9 * b3;
            w[13] = a4 * b9 + a5 * b8 + a6 * b7 + a7 * b6 + a8 * b5 + a9 * b4;
            w[14] = a5 * b9 + a6 * b8 + a7 * b7 + a8 * b6 + a9 * b5;
            w[15] = a6 * b9 + a7 * b8 + a8 * b7 + a9 * b6;
            w[16] = a7 * b9 + a8 * b8 + a9 * b7;
            w[17] = a8 * b9 + a9 * b8;
            w[18] = a9 * b9;
            settle(out);
        }

        void square(long[] out, long[] a) {
            long a0 = a[0], a1 = a[1], a2 = a[2], a3 = a[3], a4 = a[4];
            long a5 = a[5], a6 = a[6], a7 = a[7], a8 = a[8], a9 = a[9];
            long d0 = 2 * a0, d1 = 2 * a1, d2 = 2 * a2, d3 = 2 * a3, d4 = 2 * a4;
            long d5 = 2 * a5, d6 = 2 * a6, d7 = 2 * a7, d8 = 2 * a8;
            long[] w = wide;
            w[0] = a0 * a0;
            w[1] = d0 * a1;
            w[2] = d0 * a2 + a1 * a1;
            w[3] = d0 * a3 + d1 * a2;
            w[4] = d0 * a4 + d1 * a3 + a2 * a2;
            w[5] = d0 * a5 + d1 * a4 + d2 * a3;
            w[6] = d0 * a6 + d1 * a5 + d2 * a4 + a3 * a3;
            w[7] = d0 * a7 + d1 * a6 + d2 * a5 + d3 * a4;
            w[8] = d0 * a8 + d1 * a7 + d2 * a6 + d3 * a5 + a4 * a4;
            w[9] = d0 * a9 + d1 * a8 + d2 * a7 + d3 * a6 + d4 * a5;
            w[10] = d1 * a9 + d2 * a8 + d3 * a7 + d4 * a6 + a5 * a5;
            w[11] = d2 * a9 + d3 * a8 + d4 * a7 + d5 * a6;
            w[12] = d3 * a9 + d4 * a8 + d5 * a7 + a6 * a6;
            w[13] = d4 * a9 + d5 * a8 + d6 * a7;
            w[14] = d5 * a9 + d6 * a8 + a7 * a7;
            w[15] = d6 * a9 + d7 * a8;
            w[16] = d7 * a9 + a8 * a8;
            w[17] = d8 * a9;
            w[18] = a9 * a9;
            settle(out);
        }

        /** Brings the wide columns down to ten carried limbs; only the third may be over by some 2^21. */
        private void settle(long[] out) {
            long[] w = wide;
            long carry = 0;
            for (int k = LIMBS; k < 2 * LIMBS - 1; k++) {
                carry += w[k];
                w[k] = carry & LIMB;
                carry >>= LIMB_BITS;
            }
            w[2 * LIMBS - 1] = carry;
            // The last column's upper part would land on column 20, which is worth the same as column 10's.
            w[LIMBS] += carry * (16 * FOLD_NEXT);
            carry = 0;
            long before = 0;
            for (int k = 0; k < LIMBS; k++) {
                long high = w[k + LIMBS];
                carry += w[k] + 16 * FOLD_LOW * high + 16 * FOLD_NEXT * before;
                out[k] = carry & LIMB;
                carry >>= LIMB_BITS;
                before = high;
            }
            long over = (carry << (LIMB_BITS - TOP_BITS)) + (out[LIMBS - 1] >> TOP_BITS);
            out[LIMBS - 1] &= TOP;
            carry = out[0] + FOLD_LOW * over;
            out[0] = carry & LIMB;
            carry = (carry >> LIMB_BITS) + out[1] + FOLD_NEXT * over;
            out[1] = carry & LIMB;
            out[2] += carry >> LIMB_BITS;
        }

        /** Carries every limb: what is over 2^256 is taken off and answered. */
        private static long carryAll(long[] a) {
            long carry = 0;
            for (int k = 0; k < LIMBS; k++) {
                carry += a[k];
                a[k] = carry & LIMB;
                carry >>= LIMB_BITS;
            }
            long over = (carry << (LIMB_BITS - TOP_BITS)) + (a[LIMBS - 1] >> TOP_BITS);
            a[LIMBS - 1] &= TOP;
            return over;
        }

        private static void addFold(long[] a, long times) {
            a[0] += FOLD_LOW * times;
            a[1] += FOLD_NEXT * times;
        }

        /** Makes it the one among 0 .. p - 1. */
        static void normalize(long[] a) {
            // After the first fold it is less than 2^256 + 2^50, and no further below 0; after the second, in range.
            addFold(a, carryAll(a));
            addFold(a, carryAll(a));
            carryAll(a);
            // It is p or more just if 2^256 - p more goes over 2^256, and what stays then is p less.
            addFold(a, 1);
            if (carryAll(a) == 0) {
                addFold(a, -1);
                carryAll(a);
            }
        }

        boolean isZero(long[] a) {
            copy(probe, a);
            normalize(probe);
            long any = 0;
            for (int k = 0; k < LIMBS; k++) {
                any |= probe[k];
            }
            return any == 0;
        }

        /** base squared so many times, times factor. */
        private void raise(long[] out, long[] base, int squarings, long[] factor) {
            copy(power, base);
            for (int k = 0; k < squarings; k++) {
                square(power, power);
            }
            multiply(out, power, factor);
        }

        /** a to exponents of 2, 3, 22 and 44 bits, all ones, and to the one of 223 bits that p - 2 begins with. */
        private void raiseToOnes(long[] a) {
            raise(ones2, a, 1, a);
            raise(ones3, ones2, 1, a);
            raise(ones, ones3, 3, ones3);
            raise(ones, ones, 3, ones3);
            raise(ones, ones, 2, ones2);
            raise(ones22, ones, 11, ones);
            raise(ones44, ones22, 22, ones22);
            raise(ones, ones44, 44, ones44);
            raise(ones, ones, 88, ones);
            raise(ones, ones, 44, ones44);
            raise(ones, ones, 3, ones3);
            raise(ones, ones, 23, ones22);
        }

        /** a to p - 2; out is not a. */
        void invert(long[] out, long[] a) {
            raiseToOnes(a);
            raise(ones, ones, 5, a);
            raise(ones, ones, 3, ones2);
            raise(out, ones, 2, a);
        }

        /** a to (p + 1) / 4, out not being a: a root of a, if it has one. */
        void root(long[] out, long[] a) {
            raiseToOnes(a);
            raise(ones, ones, 6, ones2);
            square(out, ones);
            square(out, out);
        }

        static void fromWords(long[] out, int[] words) {
            for (int k = 0; k < LIMBS; k++) {
                int word = (LIMB_BITS * k) >> 5;
                int shift = (LIMB_BITS * k) & 31;
                long bits = (words[word] & Words.WORD) >>> shift;
                if (word + 1 < NUMBER_WORDS) {
                    bits |= (words[word + 1] & Words.WORD) << (32 - shift);
                }
                out[k] = bits & LIMB;
            }
        }

        /** Byte place of a normalized number, the lowest being 0. */
        static int byteOf(long[] a, int place) {
            int limb = 8 * place / LIMB_BITS;
            int shift = 8 * place - LIMB_BITS * limb;
            long bits = a[limb] >> shift;
            if (limb + 1 < LIMBS) {
                bits |= a[limb + 1] << (LIMB_BITS - shift);
            }
            return (int) bits & 255;
        }
    }

    /** ZERO, or (x / z^2, y / z^3). A flat one is not ZERO, has normalized x and y, and 1 for z. */
    static final class Point {
        final long[] x = new long[Field.LIMBS];
        final long[] y = new long[Field.LIMBS];
        final long[] z = new long[Field.LIMBS];
        boolean zero = true;
    }

    /** A flat point and how many times it is in a sum. */
    static final class Term {
        final Point base = new Point();
        final int[] factor = new int[NUMBER_WORDS];
    }

    /** The curve's points. Limbs of x and y stay below 10, of z below 3 times as large as carried ones. */
    static final class Curve {
        private static final int[] P = {
            0xfffffc2f, 0xfffffffe, 0xffffffff, 0xffffffff, 0xffffffff, 0xffffffff, 0xffffffff, 0xffffffff
        };
        private static final int TEETH = 4;
        private static final int TOOTH_GAP = 64;
        /**
         * x and y of d * G, d = 1 .. 15 read as bits that stand 64 apart: 1, 2^64, 2^64 + 1, and so on. With
         * these a product with G takes 64 doublings instead of 256.
         */
        private static final int[] COMB = {
            0x2f81798, 0x0a056c5, 0x28d959f, 0x36cb738, 0x3029bfc, 0x3a1c2c1, 0x206295c, 0x2eeb156, 0x27ef9dc, 0x01e6f99,
            0x310d4b8, 0x1f423fe, 0x14199c4, 0x1229a15, 0x0fd17b4, 0x384422a, 0x24fbfc0, 0x3119576, 0x27726a3, 0x0120eb6,
            0x2d0e6bd, 0x1f839d0, 0x1e5313b, 0x18f6c3d, 0x3f774d1, 0x0135bb2, 0x22147c1, 0x138960a, 0x001243c, 0x00cc8b5,
            0x028b2a0, 0x0e8ba5b, 0x3af624f, 0x0fa8a1c, 0x32805f6, 0x376be6d, 0x3019bc4, 0x13bd6fe, 0x397e966, 0x015b9c1,
            0x29d122a, 0x20449e0, 0x1549dca, 0x0519fa6, 0x38f17f3, 0x2a2a79c, 0x0890856, 0x366766e, 0x3d9846d, 0x0160ff7,
            0x3c4eac4, 0x1dc6798, 0x337af3c, 0x28edcd2, 0x2b44685, 0x1ca91e9, 0x12d2d65, 0x1f6067e, 0x32f2ff5, 0x02af188,
            0x2c4c0da, 0x2d11327, 0x23351b7, 0x1e1c8fa, 0x2e88c56, 0x207c58b, 0x39c1ad9, 0x17cce48, 0x1d2f63b, 0x023da2e,
            0x01fff82, 0x32fde54, 0x0bfdf23, 0x3fa5544, 0x1bbea2c, 0x1af8857, 0x1d90c2b, 0x0e61b78, 0x32dba06, 0x0198aa7,
            0x14cbf09, 0x17a2144, 0x3e3e63c, 0x24def9d, 0x32f27ce, 0x1528f8c, 0x26d12df, 0x21cb36a, 0x2513eff, 0x022cc03,
            0x3b10a39, 0x1bfca2c, 0x316926c, 0x2aa6abd, 0x208f6a7, 0x2e08e3a, 0x2f0d466, 0x3033111, 0x0677f43, 0x0073b0c,
            0x35e9070, 0x1b39a81, 0x3e37ba1, 0x0f66d73, 0x0bc2689, 0x31441dd, 0x1dadfe9, 0x38bd387, 0x188fe3a, 0x024248b,
            0x008824a, 0x250f317, 0x34bc653, 0x1d7f3a3, 0x106d744, 0x0cf1857, 0x101fa75, 0x022a634, 0x3f67421, 0x01ec640,
            0x2bdc96c, 0x3e9171b, 0x04ba1bc, 0x01071d6, 0x3e400bc, 0x133d4c7, 0x15e20e7, 0x06cc18e, 0x3b1c513, 0x007b742,
            0x358cf9e, 0x1c586f8, 0x111ca11, 0x3c09c93, 0x1e490d6, 0x39b7632, 0x1062f6e, 0x1cf93dd, 0x32bfba3, 0x00c780e,
            0x120e2b3, 0x2d63e88, 0x39aa7f3, 0x339fd1f, 0x17a58fd, 0x339b948, 0x3e4ae34, 0x2f6eb9e, 0x1f21f51, 0x03aa992,
            0x25ad93d, 0x294c16e, 0x3e59d47, 0x197c4fd, 0x201a6b9, 0x21e6a96, 0x1a80f89, 0x2c0eb1a, 0x1ed5bbb, 0x02f8c9e,
            0x3bb4d71, 0x2468cc9, 0x0832cf2, 0x1accd49, 0x26caf7d, 0x199613b, 0x0ee1317, 0x31625b8, 0x0f6d064, 0x005832c,
            0x3136e8d, 0x3795505, 0x320e9d5, 0x1a06aad, 0x2e3f2d4, 0x33dd730, 0x378b49c, 0x05b8744, 0x375c4ff, 0x01a4830,
            0x29ee611, 0x3e7a586, 0x3faf3ee, 0x3ce730d, 0x1fe4d7b, 0x0c87659, 0x2aa9b3b, 0x0db1518, 0x23e2087, 0x005c0b6,
            0x2545ceb, 0x15eefce, 0x18f5fba, 0x199faa1, 0x16dbcd7, 0x20364bc, 0x0e897c6, 0x1b20022, 0x3d8bc62, 0x011a307,
            0x188660a, 0x3e171ec, 0x3c36b40, 0x06666f0, 0x0c5873c, 0x3cced53, 0x3b45417, 0x26fe0f1, 0x13c1f8c, 0x01334ea,
            0x3099cb0, 0x338e00c, 0x2f33f8d, 0x358bb74, 0x37a167d, 0x3ff8d6d, 0x2d89870, 0x339715d, 0x386c68a, 0x034b780,
            0x258bb08, 0x3829c99, 0x207b9a9, 0x0ab1625, 0x0e23c5f, 0x0afed32, 0x08ca14f, 0x08a4681, 0x389c62c, 0x0136683,
            0x3827294, 0x2d7cc43, 0x35cd427, 0x2d67cb0, 0x31ea7a8, 0x168f003, 0x042e568, 0x25d6a55, 0x1219b57, 0x0232e0c,
            0x1f5cf67, 0x0fc3694, 0x13cb433, 0x1f3d3c3, 0x36d3ea4, 0x016a0c7, 0x2fda14a, 0x0fa0510, 0x013016d, 0x01a9258,
            0x12e0f48, 0x1cc6339, 0x1ff1f64, 0x1b92835, 0x05ff3a6, 0x04666ea, 0x2ed81a6, 0x308e811, 0x3083e79, 0x015e3b7,
            0x2a01ea7, 0x265be0f, 0x3b15b8f, 0x0cdd25e, 0x0c0045d, 0x081591f, 0x349dc96, 0x08b2711, 0x0540efd, 0x0362518,
            0x2774ad5, 0x372c244, 0x2e3a062, 0x0422f81, 0x1cb13f3, 0x0d7786a, 0x281d352, 0x1917328, 0x01269c3, 0x02be29d,
            0x2b8b1e2, 0x23297ef, 0x1a76880, 0x013a837, 0x30262b2, 0x37acd5a, 0x3ffffcd, 0x0e1c2db, 0x13afbb8, 0x014b789,
            0x38d21ea, 0x3d03023, 0x03ed961, 0x1e000bc, 0x2896862, 0x239087a, 0x3834d73, 0x2e36c3f, 0x16fd36f, 0x00e89c3,
        };

        private final Field field = new Field();
        private final long[] a = new long[Field.LIMBS];
        private final long[] b = new long[Field.LIMBS];
        private final long[] c = new long[Field.LIMBS];
        private final long[] d = new long[Field.LIMBS];
        private final long[] e = new long[Field.LIMBS];
        private final int[] words = new int[NUMBER_WORDS];
        private final Point tooth = new Point();
        private final Term[] terms = new Term[MOST_PARTICIPANTS];
        private int termCount;

        Curve() {
            for (int k = 0; k < MOST_PARTICIPANTS; k++) {
                terms[k] = new Term();
            }
        }

        private static void copyFlat(Point out, Point from) {
            Field.copy(out.x, from.x);
            Field.copy(out.y, from.y);
            Field.setSmall(out.z, 1);
            out.zero = false;
        }

        /** The point twice; no point of the curve has a y of 0. */
        void twice(Point point) {
            if (point.zero) {
                return;
            }
            field.square(a, point.x);
            Field.mix(a, 3, a, 0, a);
            field.square(b, point.y);
            field.multiply(d, point.x, b);
            field.square(c, b);
            field.multiply(point.z, point.y, point.z);
            Field.mix(point.z, 2, point.z, 0, point.z);
            field.square(e, a);
            Field.mix(point.x, 1, e, -8, d);
            Field.mix(d, 4, d, -1, point.x);
            field.multiply(e, a, d);
            Field.mix(point.y, 1, e, -8, c);
        }

        /** Adds a flat point. */
        void addFlat(Point point, Point flat) {
            if (point.zero) {
                copyFlat(point, flat);
                return;
            }
            field.square(a, point.z);
            field.multiply(b, flat.x, a);
            field.multiply(c, a, point.z);
            field.multiply(c, flat.y, c);
            Field.mix(b, 1, b, -1, point.x);
            Field.mix(c, 1, c, -1, point.y);
            if (field.isZero(b)) {
                if (field.isZero(c)) {
                    twice(point);
                } else {
                    point.zero = true;
                }
                return;
            }
            field.multiply(point.z, point.z, b);
            field.square(a, b);
            field.multiply(d, point.x, a);
            field.multiply(a, a, b);
            field.multiply(e, point.y, a);
            field.square(b, c);
            Field.mix(b, 1, b, -1, a);
            Field.mix(point.x, 1, b, -2, d);
            Field.mix(d, 1, d, -1, point.x);
            field.multiply(b, c, d);
            Field.mix(point.y, 1, b, -1, e);
        }

        /** factor * G. */
        void timesG(Point out, int[] factor) {
            out.zero = true;
            for (int column = TOOTH_GAP - 1; column >= 0; column--) {
                twice(out);
                int digit = 0;
                for (int k = 0; k < TEETH; k++) {
                    digit |= Words.bit(factor, column + TOOTH_GAP * k) << k;
                }
                if (digit != 0) {
                    loadTooth(digit);
                    addFlat(out, tooth);
                }
            }
        }

        private void loadTooth(int digit) {
            int from = (digit - 1) * 2 * Field.LIMBS;
            for (int k = 0; k < Field.LIMBS; k++) {
                tooth.x[k] = COMB[from + k];
                tooth.y[k] = COMB[from + Field.LIMBS + k];
            }
        }

        void clearTerms() {
            termCount = 0;
        }

        /** Notes factor times a flat point for sumTerms(). */
        void addTerm(Point flat, int[] factor) {
            if (termCount < terms.length) {
                copyFlat(terms[termCount].base, flat);
                Words.copy(terms[termCount].factor, factor);
                termCount++;
            }
        }

        /** The sum of all terms, with one doubling for all of them at each bit. */
        void sumTerms(Point out) {
            out.zero = true;
            for (int bit = 32 * NUMBER_WORDS - 1; bit >= 0; bit--) {
                twice(out);
                for (int k = 0; k < termCount; k++) {
                    if (Words.bit(terms[k].factor, bit) == 1) {
                        addFlat(out, terms[k].base);
                    }
                }
            }
        }

        boolean same(Point one, Point two) {
            if (one.zero || two.zero) {
                return one.zero && two.zero;
            }
            field.square(a, one.z);
            field.square(b, two.z);
            field.multiply(c, one.x, b);
            field.multiply(d, two.x, a);
            Field.mix(c, 1, c, -1, d);
            if (!field.isZero(c)) {
                return false;
            }
            field.multiply(a, a, one.z);
            field.multiply(b, b, two.z);
            field.multiply(c, one.y, b);
            field.multiply(d, two.y, a);
            Field.mix(c, 1, c, -1, d);
            return field.isZero(c);
        }

        /** Makes a point but ZERO flat. */
        void flatten(Point point) {
            if (point.zero) {
                return;
            }
            field.invert(a, point.z);
            field.square(b, a);
            field.multiply(point.x, point.x, b);
            field.multiply(b, b, a);
            field.multiply(point.y, point.y, b);
            Field.normalize(point.x);
            Field.normalize(point.y);
            Field.setSmall(point.z, 1);
        }

        /** A flat point from the row's first 33 bytes: whether they are a point. */
        boolean read(Point out, Row row) {
            if (row.length < POINT_BYTES || (row.bytes[0] != 2 && row.bytes[0] != 3)) {
                return false;
            }
            Words.read(words, row, 1);
            if (!Words.isBelow(words, P)) {
                return false;
            }
            Field.fromWords(out.x, words);
            field.square(a, out.x);
            field.multiply(a, a, out.x);
            a[0] += 7;
            field.root(out.y, a);
            field.square(b, out.y);
            Field.mix(b, 1, b, -1, a);
            Field.normalize(out.y);
            if ((out.y[0] & 1) != (row.bytes[0] & 1)) {
                Field.mix(out.y, -1, out.y, 0, out.y);
                Field.normalize(out.y);
            }
            Field.setSmall(out.z, 1);
            out.zero = false;
            return field.isZero(b);
        }

        /** A flat point as 33 bytes. */
        static void write(Row out, Point flat) {
            out.put(2 + (int) (flat.y[0] & 1));
            for (int place = NUMBER_BYTES - 1; place >= 0; place--) {
                out.put(Field.byteOf(flat.x, place));
            }
        }
    }

    /** SHA-256. */
    static final class Sha {
        static final int BLOCK_BYTES = 64;
        private static final int ROUNDS = 64;
        private static final int STATE_WORDS = 8;
        private static final int[] START = {
            0x6a09e667, 0xbb67ae85, 0x3c6ef372, 0xa54ff53a, 0x510e527f, 0x9b05688c, 0x1f83d9ab, 0x5be0cd19
        };
        private static final int[] ROUND = {
            0x428a2f98, 0x71374491, 0xb5c0fbcf, 0xe9b5dba5, 0x3956c25b, 0x59f111f1, 0x923f82a4, 0xab1c5ed5,
            0xd807aa98, 0x12835b01, 0x243185be, 0x550c7dc3, 0x72be5d74, 0x80deb1fe, 0x9bdc06a7, 0xc19bf174,
            0xe49b69c1, 0xefbe4786, 0x0fc19dc6, 0x240ca1cc, 0x2de92c6f, 0x4a7484aa, 0x5cb0a9dc, 0x76f988da,
            0x983e5152, 0xa831c66d, 0xb00327c8, 0xbf597fc7, 0xc6e00bf3, 0xd5a79147, 0x06ca6351, 0x14292967,
            0x27b70a85, 0x2e1b2138, 0x4d2c6dfc, 0x53380d13, 0x650a7354, 0x766a0abb, 0x81c2c92e, 0x92722c85,
            0xa2bfe8a1, 0xa81a664b, 0xc24b8b70, 0xc76c51a3, 0xd192e819, 0xd6990624, 0xf40e3585, 0x106aa070,
            0x19a4c116, 0x1e376c08, 0x2748774c, 0x34b0bcb5, 0x391c0cb3, 0x4ed8aa4a, 0x5b9cca4f, 0x682e6ff3,
            0x748f82ee, 0x78a5636f, 0x84c87814, 0x8cc70208, 0x90befffa, 0xa4506ceb, 0xbef9a3f7, 0xc67178f2
        };

        private final int[] state = new int[STATE_WORDS];
        private final int[] schedule = new int[ROUNDS];
        private int taken;

        void begin() {
            System.arraycopy(START, 0, state, 0, STATE_WORDS);
            Arrays.fill(schedule, 0);
            taken = 0;
        }

        /** The block's bytes are gathered where the schedule begins. */
        void takeByte(int value) {
            int place = taken & (BLOCK_BYTES - 1);
            schedule[place >> 2] |= (value & 255) << (24 - 8 * (place & 3));
            taken++;
            if (place == BLOCK_BYTES - 1) {
                compress();
            }
        }

        void takeRow(Row row) {
            for (int k = 0; k < row.length; k++) {
                takeByte(row.bytes[k]);
            }
        }

        void takeText(String words) {
            for (int k = 0; k < words.length(); k++) {
                takeByte(words.charAt(k));
            }
        }

        void takeZeros(int count) {
            for (int k = 0; k < count; k++) {
                takeByte(0);
            }
        }

        /** Adds the 32 bytes of the digest to the row. */
        void end(Row out) {
            int bits = 8 * taken;
            takeByte(128);
            // The length takes eight bytes, of which the upper four are zeros here.
            int zeros = ((BLOCK_BYTES - 8 - taken) & (BLOCK_BYTES - 1)) + 4;
            for (int k = 0; k < zeros; k++) {
                takeByte(0);
            }
            for (int shift = 24; shift >= 0; shift -= 8) {
                takeByte(bits >>> shift);
            }
            for (int k = 0; k < STATE_WORDS; k++) {
                for (int shift = 24; shift >= 0; shift -= 8) {
                    out.put(state[k] >>> shift);
                }
            }
        }

        private void compress() {
            int[] w = schedule;
            for (int k = 16; k < ROUNDS; k++) {
                int x = w[k - 15];
                int y = w[k - 2];
                w[k] = w[k - 16] + ((x >>> 7 | x << 25) ^ (x >>> 18 | x << 14) ^ (x >>> 3))
                    + w[k - 7] + ((y >>> 17 | y << 15) ^ (y >>> 19 | y << 13) ^ (y >>> 10));
            }
            int a = state[0], b = state[1], c = state[2], d = state[3];
            int e = state[4], f = state[5], g = state[6], h = state[7];
            for (int k = 0; k < ROUNDS; k++) {
                int one = h + ((e >>> 6 | e << 26) ^ (e >>> 11 | e << 21) ^ (e >>> 25 | e << 7))
                    + ((e & f) ^ (~e & g)) + ROUND[k] + w[k];
                int two = ((a >>> 2 | a << 30) ^ (a >>> 13 | a << 19) ^ (a >>> 22 | a << 10))
                    + ((a & b) ^ (a & c) ^ (b & c));
                h = g;
                g = f;
                f = e;
                e = d + one;
                d = c;
                c = b;
                b = a;
                a = one + two;
            }
            addToState(a, b, c, d, 0);
            addToState(e, f, g, h, 4);
            Arrays.fill(w, 0);
        }

        private void addToState(int a, int b, int c, int d, int from) {
            state[from] += a;
            state[from + 1] += b;
            state[from + 2] += c;
            state[from + 3] += d;
        }
    }

    /** The document's digests: SHA, H1 to H3 by expand(), H4 and H5 by tagged(). */
    static final class Digests {
        private static final String CONTEXT = "FROST-secp256k1-SHA256-v1";

        private final Sha sha = new Sha();
        /** What the next expand() is of. */
        final Row input = new Row(COMMITMENT_BYTES + MESSAGE_ROOM);
        final Row list = new Row(MOST_PARTICIPANTS * (NUMBER_BYTES + COMMITMENT_BYTES));
        private final Row start = new Row(NUMBER_BYTES);
        private final Row expanded = new Row(2 * NUMBER_BYTES);

        void plain(Row out, Row m) {
            sha.begin();
            sha.takeRow(m);
            sha.end(out);
        }

        void tagged(Row out, String tag, Row m) {
            sha.begin();
            sha.takeText(CONTEXT);
            sha.takeText(tag);
            sha.takeRow(m);
            sha.end(out);
        }

        void expand(Scalars scalars, int[] out, String tag) {
            sha.begin();
            sha.takeZeros(Sha.BLOCK_BYTES);
            sha.takeRow(input);
            sha.takeByte(0);
            sha.takeByte(EXPANDED_BYTES);
            sha.takeByte(0);
            start.clear();
            endWithDomain(start, tag);
            expanded.clear();
            sha.begin();
            sha.takeRow(start);
            sha.takeByte(1);
            endWithDomain(expanded, tag);
            sha.begin();
            for (int k = 0; k < NUMBER_BYTES; k++) {
                sha.takeByte(start.bytes[k] ^ expanded.bytes[k]);
            }
            sha.takeByte(2);
            endWithDomain(expanded, tag);
            scalars.readExpanded(out, expanded);
        }

        private void endWithDomain(Row out, String tag) {
            sha.takeText(CONTEXT);
            sha.takeText(tag);
            sha.takeByte(CONTEXT.length() + tag.length());
            sha.end(out);
        }
    }

    /** What one participant has; its points are flat. */
    static final class Participant {
        final int[] dealt = new int[NUMBER_WORDS];
        final int[] secret = new int[NUMBER_WORDS];
        final int[] hiding = new int[NUMBER_WORDS];
        final int[] binding = new int[NUMBER_WORDS];
        final Point key = new Point();
        final Point hidingPoint = new Point();
        final Point bindingPoint = new Point();
    }

    /** A chosen set, as bits, and all that hangs on it; commitment is R. */
    static final class Signing {
        int set;
        int given;
        final Point commitment = new Point();
        final int[] challenge = new int[NUMBER_WORDS];
        final int[][] factors = new int[MOST_PARTICIPANTS][NUMBER_WORDS];
        final int[][] weights = new int[MOST_PARTICIPANTS][NUMBER_WORDS];
        final int[][] shares = new int[MOST_PARTICIPANTS][NUMBER_WORDS];
    }
}
