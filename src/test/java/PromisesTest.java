import java.math.BigInteger;
import java.util.Arrays;
import java.util.HexFormat;

/** The document's promises one by one: ordinary calls, the edges that it names, and wrong calls. */
final class PromisesTest {
    private static final Class<IllegalStateException> STATE = IllegalStateException.class;
    private static final Class<IndexOutOfBoundsException> INDEX = IndexOutOfBoundsException.class;
    private static final Class<IllegalArgumentException> ARGUMENT = IllegalArgumentException.class;
    private static final String Q = hex(Reference.Q);
    private static final String BELOW_Q = hex(Reference.Q.subtract(BigInteger.ONE));
    private static final String MOST = "ff".repeat(32);
    private static final int[] EDGES = {0, -1, 9, 33, Integer.MAX_VALUE, Integer.MIN_VALUE};

    private PromisesTest() {
    }

    public static void main(String[] args) {
        promise1NewObject();
        promise2Feed();
        promise3Message();
        promise4Deal();
        promise4DealRefuses();
        promise5Change();
        promise6Commit();
        promise7Choose();
        promise7ChooseAgain();
        promise8Share();
        promise9Other();
        promise10Right();
        promise11Gather();
        promise11GatherCancelling();
        promise12Holds();
        promise13Show();
        promise14Output();
        promise15About();
        eightOfEight();
        Check.end();
    }

    private static String hex(BigInteger number) {
        return HexFormat.of().formatHex(Reference.bytes(number));
    }

    private static String hex(byte[] row) {
        return HexFormat.of().formatHex(row);
    }

    private static String hexOfPoint(BigInteger factor) {
        return hex(Reference.bytes(Reference.times(factor, Reference.G)));
    }

    private static BigInteger number(String hex) {
        return new BigInteger(hex, 16);
    }

    /** 64 bytes that stand for random ones. */
    private static String chance(int i) {
        return hex(Reference.sha(Reference.text("hiding " + i))) + hex(Reference.sha(Reference.text("binding " + i)));
    }

    private static String abouts(ThresholdBench x) {
        int[] all = new int[8];
        for (int what = 0; what < 8; what++) {
            all[what] = x.about(what);
        }
        return Arrays.toString(all);
    }

    private static void refused(ThresholdBench x, String what, Check.Call call, Class<? extends RuntimeException> want) {
        String output = Check.output(x);
        int[] before = {x.about(0), x.about(1), x.about(2), x.about(3), x.about(4), x.about(6), x.about(7)};
        Check.throwsDue(what, call, want);
        int[] after = {x.about(0), x.about(1), x.about(2), x.about(3), x.about(4), x.about(6), x.about(7)};
        Check.due(what + " changes nothing", Arrays.toString(after), Arrays.toString(before));
        Check.due(what + " leaves the output", Check.output(x), output);
    }

    /** A call that takes the tape is refused, and the tape is empty all the same. */
    private static void refusedWithTape(ThresholdBench x, String tape, String what, Check.Call call,
            Class<? extends RuntimeException> want) {
        Check.feed(x, tape);
        refused(x, what, call, want);
        Check.due(what + " empties the tape", x.about(5), 0);
    }

    private static ThresholdBench dealt(int n, long... coefficients) {
        ThresholdBench x = new ThresholdBench();
        for (long coefficient : coefficients) {
            Check.feed(x, Check.number(coefficient));
        }
        x.deal(coefficients.length, n);
        return x;
    }

    private static void commit(ThresholdBench x, int... who) {
        for (int i : who) {
            Check.feed(x, chance(i));
            x.commit(i);
        }
    }

    /** Two of three are dealt 5 + 7 x, 1 and 3 have committed and are chosen, the message is "test". */
    private static ThresholdBench chosen() {
        ThresholdBench x = dealt(3, 5, 7);
        Check.feed(x, "74657374");
        x.message();
        commit(x, 1, 3);
        x.choose(5);
        return x;
    }

    private static BigInteger nonce(ThresholdBench x, int i, int which, BigInteger secret) {
        byte[] random = Check.bytes(chance(i).substring(64 * which, 64 * which + 64));
        return Reference.expand(Reference.join(random, Reference.bytes(secret)), "nonce");
    }

    /** i's share as the document says it, from what the object shows. */
    private static BigInteger shareOf(ThresholdBench x, int i, BigInteger secretAtCommit) {
        BigInteger secret = number(Check.show(x, 2, i));
        BigInteger factor = number(Check.show(x, 5, i));
        BigInteger challenge = number(Check.show(x, 6, 0));
        BigInteger weight = number(Check.show(x, 7, i));
        return nonce(x, i, 0, secretAtCommit).add(nonce(x, i, 1, secretAtCommit).multiply(factor))
            .add(weight.multiply(secret).multiply(challenge)).mod(Reference.Q);
    }

    private static BigInteger shareOf(ThresholdBench x, int i) {
        return shareOf(x, i, number(Check.show(x, 2, i)));
    }

    private static void shares(ThresholdBench x, int i, BigInteger want, String what) {
        x.share(i);
        Check.due(what, Check.output(x), hex(want));
    }

    private static void promise1NewObject() {
        ThresholdBench x = new ThresholdBench();
        Check.due("NONE", ThresholdBench.NONE, -1);
        Check.due("new: about", abouts(x), "[0, 0, 0, 0, 0, 0, 0, 0]");
        Check.due("new: output", x.output(0), -1);
        for (int what = 0; what < 8; what++) {
            Check.due("new: show " + what, x.show(what, 1), 0);
            Check.due("new: show 0", x.show(what, 0), 0);
        }
        Check.due("new: SHA of no bytes", Check.show(x, 8, 0),
            "e3b0c44298fc1c149afbf4c8996fb92427ae41e4649b934ca495991b7852b855");
        refusedWithTape(x, Check.number(5), "new: change", () -> x.change(1), STATE);
        refusedWithTape(x, chance(1), "new: commit", () -> { x.commit(1); return 0; }, STATE);
        refusedWithTape(x, Check.number(5), "new: other", () -> { x.other(1); return 0; }, STATE);
        refusedWithTape(x, "02" + chance(1), "new: holds", x::holds, STATE);
        refused(x, "new: choose", () -> { x.choose(3); return 0; }, STATE);
        refused(x, "new: choose(0)", () -> { x.choose(0); return 0; }, STATE);
        refused(x, "new: share", () -> { x.share(0); return 0; }, STATE);
        refused(x, "new: right", () -> x.right(9), STATE);
        refused(x, "new: gather", x::gather, STATE);
    }

    private static void promise2Feed() {
        ThresholdBench x = new ThresholdBench();
        Check.due("feed 0", x.feed(0, 1, 2, 3, 4, 5), 0);
        for (int n : new int[] {-1, 21, 22, Integer.MAX_VALUE, Integer.MIN_VALUE}) {
            Check.due("feed " + n, x.feed(n, 1, 2, 3, 4, 5), -1);
            Check.due("feed " + n + " brings none", x.about(5), 0);
        }
        String all = "0102030405060708090a0b0c0d0e0f10f1f2f3f4";
        for (int n = 0; n <= 20; n++) {
            Check.due("feed", x.feed(n, 0x01020304, 0x05060708, 0x090a0b0c, 0x0d0e0f10, 0xf1f2f3f4), n);
            x.message();
            Check.due("the first " + n, Check.show(x, 8, 0), hex(Reference.sha(Check.bytes(all.substring(0, 2 * n)))));
        }
        Check.due("feed 3", x.feed(3, 0xaabbccdd, 0, 0, 0, 0), 3);
        Check.due("feed 2 more", x.feed(2, 0xeeff1122, 0, 0, 0, 0), 5);
        x.message();
        Check.due("one behind the other", Check.show(x, 8, 0), hex(Reference.sha(Check.bytes("aabbcceeff"))));
        for (int k = 1; k <= 14; k++) {
            Check.due("feed 20", x.feed(20, 0, 0, 0, 0, 0), 20 * k);
        }
        Check.due("feed 1", x.feed(1, 0, 0, 0, 0, 0), 281);
        Check.due("301", x.feed(20, 0, 0, 0, 0, 0), -1);
        Check.due("none of the 20 came", x.about(5), 281);
        Check.due("300", x.feed(19, 0, 0, 0, 0, 0), 300);
        Check.due("nothing more", x.feed(0, 0, 0, 0, 0, 0), 300);
        Check.due("one too many", x.feed(1, 0, 0, 0, 0, 0), -1);
        Check.due("300 stay", x.about(5), 300);
    }

    private static void promise3Message() {
        ThresholdBench x = chosen();
        x.share(1);
        commitStays(x);
        for (int length : new int[] {0, 1, 55, 56, 57, 63, 64, 99, 100, 0}) {
            Check.feed(x, "5a".repeat(length));
            Check.due("message", x.message(), length);
            Check.due("message length", x.about(6), length);
            Check.due("tape is empty", x.about(5), 0);
            Check.due("message bytes", Check.show(x, 8, 0), hex(Reference.sha(Check.bytes("5a".repeat(length)))));
        }
        Check.feed(x, "11".repeat(100));
        x.message();
        for (int length : new int[] {101, 128, 300}) {
            Check.feed(x, "5a".repeat(length));
            refused(x, "message of " + length, x::message, ARGUMENT);
            Check.due("its tape stays", x.about(5), length);
            Check.due("the message stays", Check.show(x, 8, 0), hex(Reference.sha(Check.bytes("11".repeat(100)))));
            Check.throwsDue("to empty the tape", () -> x.change(1), ARGUMENT);
        }
        ThresholdBench y = chosen();
        Check.feed(y, "22".repeat(101));
        refused(y, "message too long", y::message, ARGUMENT);
        Check.due("the set stays", y.about(3), 5);
    }

    private static void commitStays(ThresholdBench x) {
        commit(x, 2);
        x.choose(6);
        Check.feed(x, Check.number(77));
        x.other(2);
        Check.due("before message", abouts(x), "[2, 3, 6, 6, 2, 0, 4, 33]");
        String commitment = Check.show(x, 4, 3);
        x.message();
        Check.due("commitments stay, the set does not", abouts(x), "[2, 3, 6, 0, 0, 0, 0, 66]");
        Check.due("a commitment stays", Check.show(x, 4, 3), commitment);
        refused(x, "no set", x::gather, STATE);
        x.choose(6);
        x.share(2);
        x.share(3);
        Check.due("a nonce stays", x.gather(), 0);
    }

    private static void promise4Deal() {
        ThresholdBench x = dealt(8, 5, 7, 11);
        Check.due("dealt", abouts(x), "[3, 8, 0, 0, 0, 0, 0, 0]");
        Check.due("group key", Check.show(x, 0, 0), hexOfPoint(BigInteger.valueOf(5)));
        for (int i = 1; i <= 8; i++) {
            BigInteger secret = BigInteger.valueOf(5 + 7 * i + 11 * i * i);
            Check.due("secret " + i, Check.show(x, 2, i), hex(secret));
            Check.due("key " + i, Check.show(x, 1, i), hexOfPoint(secret));
        }
        long[] coefficients = {5, 7, 11};
        for (int k = 0; k < 3; k++) {
            Check.due("point " + k, Check.show(x, 3, k), hexOfPoint(BigInteger.valueOf(coefficients[k])));
        }
        commit(x, 1, 2, 3);
        x.choose(7);
        Check.feed(x, "aa");
        x.message();
        x.choose(7);
        x.share(1);
        Check.feed(x, BELOW_Q + BELOW_Q);
        x.deal(2, 2);
        Check.due("dealt anew", abouts(x), "[2, 2, 0, 0, 0, 0, 1, 32]");
        Check.due("-1 - 1 * 2", Check.show(x, 2, 2), hex(Reference.Q.subtract(BigInteger.valueOf(3))));
        Check.due("nobody has committed", x.show(4, 2), 0);
        Check.due("no third", x.show(1, 3), 0);
        Check.due("no third coefficient", x.show(3, 2), 0);
        refused(x, "no set", x::gather, STATE);
        refused(x, "none committed", () -> { x.choose(3); return 0; }, ARGUMENT);
    }

    private static void promise4DealRefuses() {
        ThresholdBench x = chosen();
        String good = Check.number(5).repeat(2);
        int[][] sizes = {{1, 1}, {1, 3}, {0, 3}, {-1, 3}, {3, 2}, {2, 9}, {9, 9}, {2, 1}, {2, 0}, {2, -1}, {3, 3},
            {Integer.MAX_VALUE, 8}, {Integer.MIN_VALUE, 8}, {2, Integer.MAX_VALUE}, {2, Integer.MIN_VALUE},
            {1 << 27, Integer.MAX_VALUE}};
        for (int[] size : sizes) {
            refusedWithTape(x, good, "deal " + Arrays.toString(size),
                () -> { x.deal(size[0], size[1]); return 0; }, ARGUMENT);
        }
        refusedWithTape(x, Check.number(5), "deal(1, 1)", () -> { x.deal(1, 1); return 0; }, ARGUMENT);
        refusedWithTape(x, "", "no tape", () -> { x.deal(2, 3); return 0; }, ARGUMENT);
        refusedWithTape(x, Check.number(5).repeat(9), "nine", () -> { x.deal(9, 9); return 0; }, ARGUMENT);
        String one = hex(BigInteger.ONE);
        String[] tapes = {good + "00", good.substring(2), one, one + Check.number(0), Check.number(0) + one, one + Q,
            Q + one, one + MOST, MOST + one, hex(Reference.Q.subtract(BigInteger.TWO)) + one,
            hex(Reference.Q.subtract(BigInteger.valueOf(3))) + one, hex(Reference.Q.subtract(BigInteger.ONE)) + one};
        for (String tape : tapes) {
            refusedWithTape(x, tape, "deal of " + tape, () -> { x.deal(2, 3); return 0; }, ARGUMENT);
        }
        Check.due("what was dealt stays", Check.show(x, 0, 0), hexOfPoint(BigInteger.valueOf(5)));
        Check.due("secrets stay", Check.show(x, 2, 3), Check.number(26));
        Check.due("points stay", Check.show(x, 3, 1), hexOfPoint(BigInteger.valueOf(7)));
        x.share(1);
        x.share(3);
        Check.due("the set signs", x.gather(), 0);
        Check.feed(x, hex(Reference.Q.subtract(BigInteger.valueOf(4))) + one);
        x.deal(2, 3);
        Check.due("-4 + 3 is not 0", Check.show(x, 2, 3), BELOW_Q);
        for (int n = 2; n <= 8; n++) {
            for (int t = 2; t <= n; t++) {
                Check.feed(x, one.repeat(t));
                x.deal(t, n);
                Check.due("T and N", x.about(0) * 10 + x.about(1), t * 10 + n);
                Check.due("secret of the first", Check.show(x, 2, 1), Check.number(t));
            }
        }
    }

    private static void promise5Change() {
        ThresholdBench x = chosen();
        String key = Check.show(x, 1, 3);
        Check.feed(x, Check.number(27));
        Check.due("27 does not fit", x.change(3), false);
        Check.due("tape is empty", x.about(5), 0);
        Check.due("secret", Check.show(x, 2, 3), Check.number(27));
        Check.due("key stays", Check.show(x, 1, 3), key);
        Check.due("set and commitments stay", x.about(2) * 10 + x.about(3), 55);
        shares(x, 3, shareOf(x, 3, BigInteger.valueOf(26)), "share with the new secret");
        Check.due("not right", x.right(3), false);
        Check.feed(x, Check.number(26));
        Check.due("26 fits", x.change(3), true);
        for (String value : new String[] {Check.number(0), BELOW_Q, Check.number(12), Check.number(19)}) {
            Check.feed(x, value);
            Check.due(value, x.change(2), value.equals(Check.number(19)));
            Check.due("secret of 2", Check.show(x, 2, 2), value);
        }
        for (String tape : new String[] {"", "00", Check.number(26) + "00", Check.number(26).substring(2), Q, MOST,
            chance(1)}) {
            refusedWithTape(x, tape, "change by " + tape, () -> x.change(2), ARGUMENT);
            Check.due("it stays", Check.show(x, 2, 2), Check.number(19));
        }
        for (int i : new int[] {0, -1, 4, 9, Integer.MAX_VALUE, Integer.MIN_VALUE}) {
            refusedWithTape(x, Check.number(19), "change " + i, () -> x.change(i), INDEX);
            refusedWithTape(x, Q, "change " + i + " by q", () -> x.change(i), INDEX);
        }
        commit(x, 2);
        ThresholdBench y = dealt(3, 5, 7);
        Check.feed(y, Check.number(20));
        y.change(2);
        commit(y, 2);
        Check.due("the nonces hang on the secret", Check.show(x, 4, 2).equals(Check.show(y, 4, 2)), false);
        Check.due("hiding by 20", Check.show(y, 4, 2).substring(0, 66),
            hexOfPoint(nonce(y, 2, 0, BigInteger.valueOf(20))));
    }

    private static void promise6Commit() {
        ThresholdBench x = dealt(3, 5, 7);
        for (int i = 3; i >= 1; i--) {
            commit(x, i);
            BigInteger secret = BigInteger.valueOf(5 + 7 * i);
            Check.due("commitment " + i, Check.show(x, 4, i),
                hexOfPoint(nonce(x, i, 0, secret)) + hexOfPoint(nonce(x, i, 1, secret)));
            Check.due("committed", x.about(2), 7 & (7 << (i - 1)));
            Check.due("tape is empty", x.about(5), 0);
        }
        x.choose(7);
        x.share(1);
        String before = Check.show(x, 4, 2);
        for (String tape : new String[] {"", Check.number(1), chance(1) + "00", chance(1).substring(2)}) {
            refusedWithTape(x, tape, "commit by " + tape, () -> { x.commit(2); return 0; }, ARGUMENT);
        }
        for (int i : new int[] {0, -1, 4, 9, Integer.MAX_VALUE, Integer.MIN_VALUE}) {
            refusedWithTape(x, chance(1), "commit " + i, () -> { x.commit(i); return 0; }, INDEX);
            refusedWithTape(x, "", "commit " + i + " by nothing", () -> { x.commit(i); return 0; }, INDEX);
        }
        Check.due("the commitment stays", Check.show(x, 4, 2), before);
        Check.feed(x, chance(7));
        x.commit(2);
        Check.due("another one", Check.show(x, 4, 2).substring(0, 66),
            hexOfPoint(nonce(x, 7, 0, BigInteger.valueOf(19))));
        Check.due("no set any more", abouts(x), "[2, 3, 6, 0, 0, 0, 0, 66]");
        refused(x, "no set", () -> { x.share(3); return 0; }, STATE);
        commit(x, 1);
        Check.due("commits again", x.about(2), 7);
        Check.feed(x, MOST + "00".repeat(32));
        x.commit(1);
        Check.due("any 64 bytes will do", Check.show(x, 4, 1).substring(66), hexOfPoint(
            Reference.expand(Reference.join(new byte[32], Reference.bytes(BigInteger.valueOf(12))), "nonce")));
    }

    private static BigInteger[] pointShown(ThresholdBench x, int i, int which) {
        return Reference.point(Check.bytes(Check.show(x, 4, i).substring(66 * which, 66 * which + 66)));
    }

    private static void promise7Choose() {
        ThresholdBench x = dealt(4, 5, 7, 9);
        Check.feed(x, "0102030405");
        x.message();
        commit(x, 1, 2, 4);
        Check.feed(x, "99");
        x.choose(11);
        Check.due("chosen", abouts(x), "[3, 4, 11, 11, 0, 1, 5, 33]");
        String r = Check.output(x);
        byte[] list = {};
        for (int i : new int[] {1, 2, 4}) {
            list = Reference.join(list, Reference.bytes(BigInteger.valueOf(i)), Check.bytes(Check.show(x, 4, i)));
        }
        byte[] common = Reference.join(Check.bytes(Check.show(x, 0, 0)),
            Reference.sha(Reference.text("FROST-secp256k1-SHA256-v1msg"), Check.bytes("0102030405")),
            Reference.sha(Reference.text("FROST-secp256k1-SHA256-v1com"), list));
        BigInteger[] sum = null;
        for (int i : new int[] {1, 2, 4}) {
            BigInteger factor = Reference.expand(Reference.join(common, Reference.bytes(BigInteger.valueOf(i))), "rho");
            Check.due("binding factor " + i, Check.show(x, 5, i), hex(factor));
            sum = Reference.sum(sum, Reference.sum(pointShown(x, i, 0), Reference.times(factor, pointShown(x, i, 1))));
        }
        Check.due("R", r, hex(Reference.bytes(sum)));
        byte[] signed = Reference.join(Reference.bytes(sum), Check.bytes(Check.show(x, 0, 0)), Check.bytes("0102030405"));
        Check.due("challenge", Check.show(x, 6, 0), hex(Reference.expand(signed, "chal")));
        Check.due("weight 1: 8/3", number(Check.show(x, 7, 1)).multiply(BigInteger.valueOf(3)).mod(Reference.Q).toString(), "8");
        Check.due("weight 2: 4/-2", Check.show(x, 7, 2), hex(Reference.Q.subtract(BigInteger.TWO)));
        Check.due("weight 4: 2/6", number(Check.show(x, 7, 4)).multiply(BigInteger.valueOf(3)).mod(Reference.Q).toString(), "1");
        for (int set : new int[] {0, 1, 3, 9, 10, 15, 7, 4, 16, 27, 128 | 11, 256 | 11, 1 << 31 | 11, -1, 512,
            Integer.MAX_VALUE, Integer.MIN_VALUE}) {
            refused(x, "choose " + set, () -> { x.choose(set); return 0; }, ARGUMENT);
        }
        Check.due("the tape stays", x.about(5), 1);
    }

    private static void promise7ChooseAgain() {
        ThresholdBench x = dealt(3, 5, 7);
        commit(x, 1, 2, 3);
        x.choose(7);
        String r = Check.output(x);
        Check.feed(x, Check.number(9));
        x.other(2);
        Check.due("2 has given one", x.about(4), 2);
        x.choose(7);
        Check.due("nobody has given one", x.about(4), 0);
        Check.due("the same R", Check.output(x), r);
        refused(x, "2 has given none", () -> x.right(2), ARGUMENT);
        x.choose(6);
        Check.due("another R", Check.output(x).equals(r), false);
        Check.due("1 has no factor", x.show(5, 1), 0);
        x.share(2);
        refused(x, "2 has not committed any more", () -> { x.choose(6); return 0; }, ARGUMENT);
        Check.due("the set stays", x.about(3) * 10 + x.about(4), 62);
        x.share(3);
        Check.due("it signs", x.gather(), 0);
        refused(x, "1 is too few", () -> { x.choose(1); return 0; }, ARGUMENT);
    }

    private static void promise8Share() {
        ThresholdBench x = chosen();
        String challenge = Check.show(x, 6, 0);
        String factor = Check.show(x, 5, 1);
        String weight = Check.show(x, 7, 1);
        Check.feed(x, "1234");
        for (int i : new int[] {0, -1, 4, 9, Integer.MAX_VALUE, Integer.MIN_VALUE}) {
            refused(x, "share " + i, () -> { x.share(i); return 0; }, INDEX);
        }
        refused(x, "2 is not in the set", () -> { x.share(2); return 0; }, ARGUMENT);
        shares(x, 1, shareOf(x, 1), "share");
        Check.due("after it", abouts(x), "[2, 3, 4, 5, 1, 2, 4, 32]");
        Check.due("its commitment is gone", x.show(4, 1), 0);
        Check.due("the set stays as chosen", Check.show(x, 6, 0) + Check.show(x, 5, 1) + Check.show(x, 7, 1),
            challenge + factor + weight);
        refused(x, "not another one", () -> { x.share(1); return 0; }, ARGUMENT);
        refusedWithTape(x, Check.number(1).substring(4), "nor by other()", () -> { x.other(1); return 0; }, ARGUMENT);
        refused(x, "it has not committed", () -> { x.choose(5); return 0; }, ARGUMENT);
        Check.due("right all the same", x.right(1), true);
        Check.feed(x, Check.number(9));
        x.other(3);
        refused(x, "3 has given another", () -> { x.share(3); return 0; }, ARGUMENT);
        Check.feed(x, chance(1));
        x.commit(1);
        refused(x, "no set", () -> { x.share(1); return 0; }, STATE);
        refused(x, "no set comes first", () -> { x.share(0); return 0; }, STATE);
        x.choose(5);
        shares(x, 3, shareOf(x, 3), "3's nonces stayed");
        shares(x, 1, shareOf(x, 1), "1's new ones");
        Check.due("signature", x.gather(), 0);
    }

    private static void promise9Other() {
        ThresholdBench x = chosen();
        String output = Check.output(x);
        for (String tape : new String[] {"", "00", Check.number(1) + "00", Check.number(1).substring(2)}) {
            refusedWithTape(x, tape, "other by " + tape, () -> { x.other(1); return 0; }, ARGUMENT);
        }
        for (int i : new int[] {0, -1, 4, 9, Integer.MAX_VALUE, Integer.MIN_VALUE}) {
            refusedWithTape(x, Check.number(1), "other " + i, () -> { x.other(i); return 0; }, INDEX);
        }
        refusedWithTape(x, Check.number(1), "2 is not in the set", () -> { x.other(2); return 0; }, ARGUMENT);
        Check.feed(x, MOST);
        x.other(1);
        Check.due("given", abouts(x), "[2, 3, 5, 5, 1, 0, 4, 33]");
        Check.due("the output stays", Check.output(x), output);
        Check.due("its commitment stays", x.show(4, 1), 66);
        refusedWithTape(x, Check.number(1), "not another one", () -> { x.other(1); return 0; }, ARGUMENT);
        refused(x, "nor by share()", () -> { x.share(1); return 0; }, ARGUMENT);
        x.choose(5);
        x.share(3);
        refusedWithTape(x, Check.number(1), "after share()", () -> { x.other(3); return 0; }, ARGUMENT);
        Check.feed(x, hex(shareOf(x, 1)));
        x.other(1);
        Check.due("the right one", x.right(1), true);
        Check.due("is as good as share()", x.gather(), 0);
        x.message();
        refusedWithTape(x, Check.number(1), "no set", () -> { x.other(1); return 0; }, STATE);
    }

    private static void promise10Right() {
        ThresholdBench x = chosen();
        for (int i : new int[] {0, -1, 4, 9, Integer.MAX_VALUE, Integer.MIN_VALUE}) {
            refused(x, "right " + i, () -> x.right(i), INDEX);
        }
        refused(x, "2 is not in the set", () -> x.right(2), ARGUMENT);
        refused(x, "1 has given none", () -> x.right(1), ARGUMENT);
        BigInteger share = shareOf(x, 1);
        String[] wrong = {hex(share.add(BigInteger.ONE)), hex(share.subtract(BigInteger.ONE)),
            hex(Reference.Q.subtract(share)), Check.number(0), Check.number(1), Q, MOST, BELOW_Q};
        for (String z : wrong) {
            x.choose(5);
            Check.feed(x, z);
            x.other(1);
            Check.due("right " + z, x.right(1), false);
        }
        x.choose(5);
        Check.feed(x, hex(share));
        x.other(1);
        Check.feed(x, "77");
        String before = abouts(x);
        Check.due("right", x.right(1), true);
        Check.due("nothing changes", abouts(x), before);
        Check.feed(x, "77");
        x.message();
        refused(x, "no set", () -> x.right(1), STATE);
        x.choose(5);
        Check.throwsDue("to empty the tape", () -> x.change(1), ARGUMENT);
        Check.feed(x, hex(share));
        x.other(1);
        Check.due("right for another message only", x.right(1), false);
        promise10SharesFromQ();
    }

    /** A share of q or more is not right even if q less would be: 2^256 - q is too small to meet one by chance. */
    private static void promise10SharesFromQ() {
        ThresholdBench x = dealt(2, 5, 7);
        commit(x, 1, 2);
        x.choose(3);
        x.share(2);
        Check.feed(x, Q);
        x.other(1);
        Check.due("q", x.right(1), false);
        Check.due("q is not gathered", x.gather(), 1);
        Check.due("2 is right", x.right(2), true);
    }

    private static void promise11Gather() {
        ThresholdBench x = dealt(4, 5, 7);
        commit(x, 1, 2, 4);
        x.choose(11);
        String r = Check.output(x);
        Check.due("none has given one", x.gather(), 11);
        Check.due("the output stays", Check.output(x), r);
        BigInteger sum = shareOf(x, 1).add(shareOf(x, 2)).add(shareOf(x, 4)).mod(Reference.Q);
        x.share(2);
        Check.due("1 and 4 are missing", x.gather(), 9);
        x.share(4);
        Check.feed(x, Check.number(8));
        x.other(1);
        String output = Check.output(x);
        Check.feed(x, "1234");
        Check.due("1 is wrong", x.gather(), 1);
        Check.due("the output still stays", Check.output(x), output);
        Check.due("the tape too", x.about(5), 2);
        x.message();
        refused(x, "the set is gone", x::gather, STATE);
        ThresholdBench y = dealt(4, 5, 7);
        commit(y, 1, 2, 4);
        y.choose(11);
        y.share(4);
        y.share(1);
        y.share(2);
        String before = abouts(y);
        Check.due("all are right", y.gather(), 0);
        Check.due("the signature", Check.output(y), r + hex(sum));
        Check.due("only the output changes", abouts(y), before.replace("32]", "65]"));
        Check.due("once more", y.gather(), 0);
        Check.due("the same", Check.output(y), r + hex(sum));
        gatherSharesNotBelowQ();
        gatherChangedSecret();
    }

    private static void gatherSharesNotBelowQ() {
        ThresholdBench x = chosen();
        Check.feed(x, MOST);
        x.other(1);
        Check.due("one is wrong, one is missing", x.gather(), 5);
        x.share(3);
        Check.due("one is wrong", x.gather(), 1);
        x.message();
        commit(x, 3);
        x.choose(5);
        Check.feed(x, Q);
        x.other(1);
        Check.feed(x, Q);
        x.other(3);
        Check.due("both are wrong", x.gather(), 5);
    }

    private static void gatherChangedSecret() {
        ThresholdBench x = chosen();
        Check.feed(x, Check.number(1000));
        x.change(3);
        x.share(1);
        x.share(3);
        Check.due("3's secret is another", x.gather(), 4);
        Check.due("1 is right", x.right(1), true);
        Check.due("3 is not", x.right(3), false);
    }

    /** Two shares that are wrong by amounts that cancel out make a signature that holds. */
    private static void promise11GatherCancelling() {
        ThresholdBench x = chosen();
        BigInteger one = shareOf(x, 1).add(BigInteger.TEN).mod(Reference.Q);
        BigInteger three = shareOf(x, 3).subtract(BigInteger.TEN).mod(Reference.Q);
        Check.feed(x, hex(one));
        x.other(1);
        Check.feed(x, hex(three));
        x.other(3);
        Check.due("1 is wrong", x.right(1), false);
        Check.due("3 is wrong", x.right(3), false);
        Check.due("together they hold", x.gather(), 0);
        Check.due("the sum", Check.output(x).substring(66), hex(one.add(three).mod(Reference.Q)));
        x.choose(5);
        Check.due("chosen again, none has given one", x.gather(), 5);
        x.choose(5);
        Check.due("and once more", x.gather(), 5);
        String r = Check.output(x);
        BigInteger sum = one.add(three);
        Check.feed(x, hex(Reference.Q.add(BigInteger.TEN)));
        x.other(1);
        Check.feed(x, hex(sum.subtract(BigInteger.TEN).mod(Reference.Q)));
        x.other(3);
        Check.due("one is not below q, though the sum would hold", x.gather(), 5);
        Check.due("the output stays", Check.output(x), r);
    }

    private static boolean holds(ThresholdBench x, String tape) {
        Check.feed(x, tape);
        boolean answer = x.holds();
        Check.due("holds() empties the tape", x.about(5), 0);
        return answer;
    }

    private static void promise12Holds() {
        ThresholdBench x = chosen();
        x.share(1);
        x.share(3);
        x.gather();
        String signature = Check.output(x);
        String before = abouts(x);
        Check.due("the signature holds", holds(x, signature), true);
        Check.due("nothing changes", abouts(x), before);
        Check.due("the output stays", Check.output(x), signature);
        for (int k = 0; k < 65; k += 4) {
            byte[] row = Check.bytes(signature);
            row[k] ^= 1;
            Check.due("another byte " + k, holds(x, hex(row)), false);
        }
        for (String tape : new String[] {"", signature.substring(2), signature + "00", signature.substring(0, 128),
            "00".repeat(65), "04" + signature.substring(2), "00" + signature.substring(2), "82" + signature.substring(2),
            "02" + hex(Reference.P) + signature.substring(66), "02" + MOST + signature.substring(66),
            "02" + Check.number(5) + signature.substring(66), signature.substring(0, 66) + Q,
            signature.substring(0, 66) + MOST, signature.substring(0, 66) + Check.number(0)}) {
            Check.due("holds " + tape, holds(x, tape), false);
        }
        for (int bits : new int[] {2, 4, 6, 128, 254}) {
            byte[] row = Check.bytes(signature);
            row[0] ^= (byte) bits;
            Check.due("neither 2 nor 3 first", holds(x, hex(row)), row[0] == 2 || row[0] == 3);
        }
        holdsByTheSecret(x, BigInteger.valueOf(5));
        Check.feed(x, "00");
        x.message();
        Check.due("not for another message", holds(x, signature), false);
        Check.feed(x, "74657374");
        x.message();
        Check.due("for this one again", holds(x, signature), true);
        Check.feed(x, Check.number(6) + Check.number(7));
        x.deal(2, 3);
        Check.due("not for another key", holds(x, signature), false);
        ThresholdBench y = dealt(8, 5, 9, 9, 9);
        Check.feed(y, "74657374");
        y.message();
        Check.due("for the same key on another object", holds(y, signature), true);
        zeroAsSum(y);
    }

    /** Signatures that no set made: k * G and k + c * secret for small k, and the same plus q. */
    private static void holdsByTheSecret(ThresholdBench x, BigInteger secret) {
        byte[] key = Check.bytes(hexOfPoint(secret));
        for (long k = 1; k <= 6; k++) {
            byte[] r = Check.bytes(hexOfPoint(BigInteger.valueOf(k)));
            BigInteger c = Reference.expand(Reference.join(r, key, Check.bytes("74657374")), "chal");
            BigInteger z = c.multiply(secret).add(BigInteger.valueOf(k)).mod(Reference.Q);
            Check.due(k + " holds", holds(x, hex(r) + hex(z)), true);
            Check.due("not with -R", holds(x, (r[0] == 2 ? "03" : "02") + hex(r).substring(2) + hex(z)), false);
            Check.due("not with -z", holds(x, hex(r) + hex(Reference.Q.subtract(z))), false);
        }
    }

    /** z = 0 makes ZERO on the left; R + c * key is not ZERO but for a chance that nobody meets. */
    private static void zeroAsSum(ThresholdBench x) {
        Check.due("z = 0", holds(x, hexOfPoint(BigInteger.TWO) + Check.number(0)), false);
    }

    private static void promise13Show() {
        ThresholdBench x = chosen();
        int[] sizes = {33, 33, 32, 33, 66, 32, 32, 32, 32};
        for (int what = 0; what < sizes.length; what++) {
            Check.due("show " + what, x.show(what, 1), sizes[what]);
            Check.due("length " + what, x.about(7), sizes[what]);
        }
        for (int i : EDGES) {
            Check.due("0 whatever i is", Check.show(x, 0, i), hexOfPoint(BigInteger.valueOf(5)));
            Check.due("6 whatever i is", Check.show(x, 6, i), Check.show(x, 6, 1));
            Check.due("8 whatever i is", Check.show(x, 8, i),
                "9f86d081884c7d659a2feaa0c55ad015a3bf4f1b2b0b822cd15d6c15b0f00a08");
            String output = Check.output(x);
            for (int what : new int[] {1, 2, 4, 5, 7}) {
                Check.due("no " + what + " of " + i, x.show(what, i), 0);
            }
            if (i != 0) {
                Check.due("no coefficient " + i, x.show(3, i), 0);
            }
            for (int what : new int[] {-1, 9, 10, Integer.MAX_VALUE, Integer.MIN_VALUE}) {
                Check.due("no show " + what, x.show(what, i), 0);
            }
            Check.due("the output stays", Check.output(x), output);
        }
        Check.due("4 of one who has not committed", x.show(4, 2), 0);
        Check.due("5 of one outside the set", x.show(5, 2), 0);
        Check.due("7 of one outside the set", x.show(7, 2), 0);
        Check.due("participant 4 of 3", x.show(1, 4), 0);
        Check.due("the last one", x.show(1, 3), 33);
        Check.due("3: i from 0", Check.show(x, 3, 0), hexOfPoint(BigInteger.valueOf(5)));
        Check.due("3: the last", Check.show(x, 3, 1), hexOfPoint(BigInteger.valueOf(7)));
        Check.due("3: one too far", x.show(3, 2), 0);
        x.message();
        for (int what : new int[] {5, 6, 7}) {
            Check.due("no set: show " + what, x.show(what, 1), 0);
        }
        Check.due("commitment without a set", x.show(4, 1), 66);
        Check.due("key without a set", x.show(1, 1), 33);
        for (int length = 0; length <= 100; length++) {
            byte[] row = new byte[length];
            Arrays.fill(row, (byte) (200 + length));
            Check.feed(x, row);
            x.message();
            Check.due("SHA of " + length, Check.show(x, 8, 0), hex(Reference.sha(row)));
        }
    }

    private static void promise14Output() {
        ThresholdBench x = dealt(3, 5, 7);
        for (int k : EDGES) {
            Check.due("nothing was output", x.output(k), -1);
        }
        x.show(0, 0);
        byte[] key = Check.bytes(hexOfPoint(BigInteger.valueOf(5)));
        for (int k = 0; k < 33; k++) {
            Check.due("byte " + k, x.output(k), key[k] & 255);
        }
        for (int k : new int[] {-1, 33, 34, 65, 66, 1000, Integer.MAX_VALUE, Integer.MIN_VALUE}) {
            Check.due("no byte " + k, x.output(k), -1);
        }
        commit(x, 1);
        x.show(4, 1);
        Check.due("66 bytes", x.output(65) != -1, true);
        Check.due("no 67th", x.output(66), -1);
        x.show(2, 1);
        Check.due("latest: 12", x.output(31), 12);
        Check.due("32 bytes again", x.output(32), -1);
        Check.feed(x, BELOW_Q);
        x.change(1);
        x.show(2, 1);
        Check.due("high bytes are not negative", x.output(0), 255);
    }

    private static void promise15About() {
        ThresholdBench x = chosen();
        Check.due("about", abouts(x), "[2, 3, 5, 5, 0, 0, 4, 33]");
        x.feed(7, 0, 0, 0, 0, 0);
        x.share(3);
        Check.due("about later", abouts(x), "[2, 3, 1, 5, 4, 7, 4, 32]");
        for (int what : new int[] {-1, 8, 9, Integer.MAX_VALUE, Integer.MIN_VALUE}) {
            Check.due("about " + what, x.about(what), 0);
        }
        x.message();
        Check.due("no set, so none has given a share", abouts(x), "[2, 3, 1, 0, 0, 0, 7, 32]");
    }

    private static void eightOfEight() {
        ThresholdBench x = dealt(8, 1, 2, 3, 4, 5, 6, 7, 8);
        Check.feed(x, "ab".repeat(100));
        x.message();
        commit(x, 1, 2, 3, 4, 5, 6, 7, 8);
        x.choose(255);
        BigInteger eighth = shareOf(x, 8);
        for (int i = 1; i <= 7; i++) {
            x.share(i);
        }
        Check.due("8 is missing", x.gather(), 128);
        shares(x, 8, eighth, "the eighth");
        Check.due("eight of eight", x.gather(), 0);
        Check.due("it holds", holds(x, Check.output(x)), true);
    }
}
