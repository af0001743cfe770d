import java.math.BigInteger;
import java.util.Arrays;
import java.util.HexFormat;

/** The document's promises one by one: ordinary calls, the edges that it names, and wrong calls. */
final class PromisesTest extends Runs {
    private PromisesTest() {
    }

    public static void main(String[] args) {
        promise1NewObject();
        promise2Feed();
        promise3Message();
        promise4Deal();
        promise4DealRefuses();
        promise4DealSizes();
        promise5Change();
        promise6Commit();
        promise7Choose();
        promise7ChooseAgain();
        promise8Share();
        promise9Other();
        promise10Right();
        promise11Gather();
        promise11GatherCancelling();
        promise12Holds();
        promise13Show();
        promise13ShaOfTheMessage();
        promise14Output();
        promise15About();
        eightOfEight();
        Check.end();
    }

    private static void promise1NewObject() {
        Bench x = new Bench();
        Check.due("NONE", ThresholdBench.NONE, -1);
        Check.due("new: about", x.abouts(), "[0, 0, 0, 0, 0, 0, 0, 0]");
        Check.due("new: output", x.output(0), -1);
        for (int what = 0; what < 8; what++) {
            Check.due("new: show " + what, x.show(what, 1), 0);
            Check.due("new: show 0", x.show(what, 0), 0);
        }
        Check.due("new: SHA of no bytes", x.shown(8, 0),
            "e3b0c44298fc1c149afbf4c8996fb92427ae41e4649b934ca495991b7852b855");
        refusedWithTape(x, Check.number(5), "new: change", () -> x.change(1), STATE);
        refusedWithTape(x, chance(1), "new: commit", () -> { x.commit(1); return 0; }, STATE);
        refusedWithTape(x, Check.number(5), "new: other", () -> { x.other(1); return 0; }, STATE);
        refusedWithTape(x, "02" + chance(1), "new: holds", x::holds, STATE);
        refused(x, "new: choose", () -> { x.choose(3); return 0; }, STATE);
        refused(x, "new: choose(0)", () -> { x.choose(0); return 0; }, STATE);
        refused(x, "new: share", () -> { x.share(0); return 0; }, STATE);
        refused(x, "new: right", () -> x.right(9), STATE);
        refused(x, "new: gather", x::gather, STATE);
    }

    private static void promise2Feed() {
        Bench x = new Bench();
        Check.due("feed 0", x.feed(0, 1, 2, 3, 4, 5), 0);
        for (int n : new int[] {-1, 21, 22, Integer.MAX_VALUE, Integer.MIN_VALUE}) {
            Check.due("feed " + n, x.feed(n, 1, 2, 3, 4, 5), -1);
            Check.due("feed " + n + " brings none", x.about(5), 0);
        }
        String all = "0102030405060708090a0b0c0d0e0f10f1f2f3f4";
        for (int n = 0; n <= 20; n++) {
            Check.due("feed", x.feed(n, 0x01020304, 0x05060708, 0x090a0b0c, 0x0d0e0f10, 0xf1f2f3f4), n);
            x.message();
            Check.due("the first " + n, x.shown(8, 0), hex(Reference.sha(Check.bytes(all.substring(0, 2 * n)))));
        }
        Check.due("feed 3", x.feed(3, 0xaabbccdd, 0, 0, 0, 0), 3);
        Check.due("feed 2 more", x.feed(2, 0xeeff1122, 0, 0, 0, 0), 5);
        x.message();
        Check.due("one behind the other", x.shown(8, 0), hex(Reference.sha(Check.bytes("aabbcceeff"))));
        for (int k = 1; k <= 14; k++) {
            Check.due("feed 20", x.feed(20, 0, 0, 0, 0, 0), 20 * k);
        }
        Check.due("feed 1", x.feed(1, 0, 0, 0, 0, 0), 281);
        Check.due("301", x.feed(20, 0, 0, 0, 0, 0), -1);
        Check.due("none of the 20 came", x.about(5), 281);
        Check.due("300", x.feed(19, 0, 0, 0, 0, 0), 300);
        Check.due("nothing more", x.feed(0, 0, 0, 0, 0, 0), 300);
        Check.due("one too many", x.feed(1, 0, 0, 0, 0, 0), -1);
        Check.due("300 stay", x.about(5), 300);
    }

    private static void promise3Message() {
        Bench x = chosen();
        x.share(1);
        commitStays(x);
        for (int length : new int[] {0, 1, 55, 56, 57, 63, 64, 99, 100, 0}) {
            x.feed("5a".repeat(length));
            Check.due("message", x.message(), length);
            Check.due("message length", x.about(6), length);
            Check.due("tape is empty", x.about(5), 0);
            Check.due("message bytes", x.shown(8, 0), hex(Reference.sha(Check.bytes("5a".repeat(length)))));
        }
        x.feed("11".repeat(100));
        x.message();
        for (int length : new int[] {101, 128, 300}) {
            x.feed("5a".repeat(length));
            refused(x, "message of " + length, x::message, ARGUMENT);
            Check.due("its tape stays", x.about(5), length);
            Check.due("the message stays", x.shown(8, 0), hex(Reference.sha(Check.bytes("11".repeat(100)))));
            Check.throwsDue("to empty the tape", () -> x.change(1), ARGUMENT);
        }
        Bench y = chosen();
        y.feed("22".repeat(101));
        refused(y, "message too long", y::message, ARGUMENT);
        Check.due("the set stays", y.about(3), 5);
    }

    private static void commitStays(Bench x) {
        commit(x, 2);
        x.choose(6);
        x.feed(Check.number(77));
        x.other(2);
        Check.due("before message", x.abouts(), "[2, 3, 6, 6, 2, 0, 4, 33]");
        String commitment = x.shown(4, 3);
        x.message();
        Check.due("commitments stay, the set does not", x.abouts(), "[2, 3, 6, 0, 0, 0, 0, 66]");
        Check.due("a commitment stays", x.shown(4, 3), commitment);
        refused(x, "no set", x::gather, STATE);
        x.choose(6);
        x.share(2);
        x.share(3);
        Check.due("a nonce stays", x.gather(), 0);
    }

    private static void promise4Deal() {
        Bench x = dealt(8, 5, 7, 11);
        Check.due("dealt", x.abouts(), "[3, 8, 0, 0, 0, 0, 0, 0]");
        Check.due("group key", x.shown(0, 0), hexOfPoint(BigInteger.valueOf(5)));
        for (int i = 1; i <= 8; i++) {
            BigInteger secret = BigInteger.valueOf(5 + 7 * i + 11 * i * i);
            Check.due("secret " + i, x.shown(2, i), hex(secret));
            Check.due("key " + i, x.shown(1, i), hexOfPoint(secret));
        }
        long[] coefficients = {5, 7, 11};
        for (int k = 0; k < 3; k++) {
            Check.due("point " + k, x.shown(3, k), hexOfPoint(BigInteger.valueOf(coefficients[k])));
        }
        commit(x, 1, 2, 3);
        x.choose(7);
        x.feed("aa");
        x.message();
        x.choose(7);
        x.share(1);
        x.feed(BELOW_Q + BELOW_Q);
        x.deal(2, 2);
        Check.due("dealt anew", x.abouts(), "[2, 2, 0, 0, 0, 0, 1, 32]");
        Check.due("-1 - 1 * 2", x.shown(2, 2), hex(Reference.Q.subtract(BigInteger.valueOf(3))));
        Check.due("nobody has committed", x.show(4, 2), 0);
        Check.due("no third", x.show(1, 3), 0);
        Check.due("no third coefficient", x.show(3, 2), 0);
        refused(x, "no set", x::gather, STATE);
        refused(x, "none committed", () -> { x.choose(3); return 0; }, ARGUMENT);
    }

    private static void promise4DealRefuses() {
        Bench x = chosen();
        String good = Check.number(5).repeat(2);
        int[][] sizes = {{1, 1}, {1, 3}, {0, 3}, {-1, 3}, {3, 2}, {2, 9}, {9, 9}, {2, 1}, {2, 0}, {2, -1}, {3, 3},
            {Integer.MAX_VALUE, 8}, {Integer.MIN_VALUE, 8}, {2, Integer.MAX_VALUE}, {2, Integer.MIN_VALUE},
            {1 << 27, Integer.MAX_VALUE}};
        for (int[] size : sizes) {
            refusedWithTape(x, good, "deal " + Arrays.toString(size),
                () -> { x.deal(size[0], size[1]); return 0; }, ARGUMENT);
        }
        refusedWithTape(x, Check.number(5), "deal(1, 1)", () -> { x.deal(1, 1); return 0; }, ARGUMENT);
        refusedWithTape(x, "", "no tape", () -> { x.deal(2, 3); return 0; }, ARGUMENT);
        refusedWithTape(x, Check.number(5).repeat(9), "nine", () -> { x.deal(9, 9); return 0; }, ARGUMENT);
        String one = hex(BigInteger.ONE);
        String[] tapes = {good + "00", good.substring(2), one, one + Check.number(0), Check.number(0) + one, one + Q,
            Q + one, one + MOST, MOST + one, hex(Reference.Q.subtract(BigInteger.TWO)) + one,
            hex(Reference.Q.subtract(BigInteger.valueOf(3))) + one, hex(Reference.Q.subtract(BigInteger.ONE)) + one};
        for (String tape : tapes) {
            refusedWithTape(x, tape, "deal of " + tape, () -> { x.deal(2, 3); return 0; }, ARGUMENT);
        }
        Check.due("what was dealt stays", x.shown(0, 0), hexOfPoint(BigInteger.valueOf(5)));
        Check.due("secrets stay", x.shown(2, 3), Check.number(26));
        Check.due("points stay", x.shown(3, 1), hexOfPoint(BigInteger.valueOf(7)));
        x.share(1);
        x.share(3);
        Check.due("the set signs", x.gather(), 0);
        x.feed(hex(Reference.Q.subtract(BigInteger.valueOf(4))) + one);
        x.deal(2, 3);
        Check.due("-4 + 3 is not 0", x.shown(2, 3), BELOW_Q);
    }

    private static void promise4DealSizes() {
        for (int n = 2; n <= 8; n++) {
            Bench x = new Bench();
            for (int t = 2; t <= n; t++) {
                x.feed(hex(BigInteger.ONE).repeat(t));
                x.deal(t, n);
                Check.due("T and N", x.about(0) * 10 + x.about(1), t * 10 + n);
                Check.due("secret of the first", x.shown(2, 1), Check.number(t));
            }
        }
    }

    private static void promise5Change() {
        Bench x = chosen();
        String key = x.shown(1, 3);
        x.feed(Check.number(27));
        Check.due("27 does not fit", x.change(3), false);
        Check.due("tape is empty", x.about(5), 0);
        Check.due("secret", x.shown(2, 3), Check.number(27));
        Check.due("key stays", x.shown(1, 3), key);
        Check.due("set and commitments stay", x.about(2) * 10 + x.about(3), 55);
        shares(x, 3, shareOf(x, 3, BigInteger.valueOf(26)), "share with the new secret");
        Check.due("not right", x.right(3), false);
        x.feed(Check.number(26));
        Check.due("26 fits", x.change(3), true);
        for (String value : new String[] {Check.number(0), BELOW_Q, Check.number(12), Check.number(19)}) {
            x.feed(value);
            Check.due(value, x.change(2), value.equals(Check.number(19)));
            Check.due("secret of 2", x.shown(2, 2), value);
        }
        for (String tape : new String[] {"", "00", Check.number(26) + "00", Check.number(26).substring(2), Q, MOST,
            chance(1)}) {
            refusedWithTape(x, tape, "change by " + tape, () -> x.change(2), ARGUMENT);
            Check.due("it stays", x.shown(2, 2), Check.number(19));
        }
        for (int i : new int[] {0, -1, 4, 9, Integer.MAX_VALUE, Integer.MIN_VALUE}) {
            refusedWithTape(x, Check.number(19), "change " + i, () -> x.change(i), INDEX);
            refusedWithTape(x, Q, "change " + i + " by q", () -> x.change(i), INDEX);
        }
        commit(x, 2);
        Bench y = dealt(3, 5, 7);
        y.feed(Check.number(20));
        y.change(2);
        commit(y, 2);
        Check.due("the nonces hang on the secret", x.shown(4, 2).equals(y.shown(4, 2)), false);
        Check.due("hiding by 20", y.shown(4, 2).substring(0, 66),
            hexOfPoint(nonce(2, 0, BigInteger.valueOf(20))));
    }

    private static void promise6Commit() {
        Bench x = dealt(3, 5, 7);
        for (int i = 3; i >= 1; i--) {
            commit(x, i);
            BigInteger secret = BigInteger.valueOf(5 + 7 * i);
            Check.due("commitment " + i, x.shown(4, i),
                hexOfPoint(nonce(i, 0, secret)) + hexOfPoint(nonce(i, 1, secret)));
            Check.due("committed", x.about(2), 7 & (7 << (i - 1)));
            Check.due("tape is empty", x.about(5), 0);
        }
        x.choose(7);
        x.share(1);
        String before = x.shown(4, 2);
        for (String tape : new String[] {"", Check.number(1), chance(1) + "00", chance(1).substring(2)}) {
            refusedWithTape(x, tape, "commit by " + tape, () -> { x.commit(2); return 0; }, ARGUMENT);
        }
        for (int i : new int[] {0, -1, 4, 9, Integer.MAX_VALUE, Integer.MIN_VALUE}) {
            refusedWithTape(x, chance(1), "commit " + i, () -> { x.commit(i); return 0; }, INDEX);
            refusedWithTape(x, "", "commit " + i + " by nothing", () -> { x.commit(i); return 0; }, INDEX);
        }
        Check.due("the commitment stays", x.shown(4, 2), before);
        x.feed(chance(7));
        x.commit(2);
        Check.due("another one", x.shown(4, 2).substring(0, 66),
            hexOfPoint(nonce(7, 0, BigInteger.valueOf(19))));
        Check.due("no set any more", x.abouts(), "[2, 3, 6, 0, 0, 0, 0, 66]");
        refused(x, "no set", () -> { x.share(3); return 0; }, STATE);
        commit(x, 1);
        Check.due("commits again", x.about(2), 7);
        x.feed(MOST + "00".repeat(32));
        x.commit(1);
        Check.due("any 64 bytes will do", x.shown(4, 1).substring(66), hexOfPoint(
            Reference.expand(Reference.join(new byte[32], Reference.bytes(BigInteger.valueOf(12))), "nonce")));
    }

    private static BigInteger[] pointShown(Bench x, int i, int which) {
        return Reference.point(Check.bytes(x.shown(4, i).substring(66 * which, 66 * which + 66)));
    }

    private static void promise7Choose() {
        Bench x = dealt(4, 5, 7, 9);
        x.feed("0102030405");
        x.message();
        commit(x, 1, 2, 4);
        x.feed("99");
        x.choose(11);
        Check.due("chosen", x.abouts(), "[3, 4, 11, 11, 0, 1, 5, 33]");
        String r = x.output();
        byte[] list = {};
        for (int i : new int[] {1, 2, 4}) {
            list = Reference.join(list, Reference.bytes(BigInteger.valueOf(i)), Check.bytes(x.shown(4, i)));
        }
        byte[] common = Reference.join(Check.bytes(x.shown(0, 0)),
            Reference.sha(Reference.text("FROST-secp256k1-SHA256-v1msg"), Check.bytes("0102030405")),
            Reference.sha(Reference.text("FROST-secp256k1-SHA256-v1com"), list));
        BigInteger[] sum = null;
        for (int i : new int[] {1, 2, 4}) {
            BigInteger factor = Reference.expand(Reference.join(common, Reference.bytes(BigInteger.valueOf(i))), "rho");
            Check.due("binding factor " + i, x.shown(5, i), hex(factor));
            sum = Reference.sum(sum, Reference.sum(pointShown(x, i, 0), Reference.times(factor, pointShown(x, i, 1))));
        }
        Check.due("R", r, hex(Reference.bytes(sum)));
        byte[] signed = Reference.join(Reference.bytes(sum), Check.bytes(x.shown(0, 0)), Check.bytes("0102030405"));
        Check.due("challenge", x.shown(6, 0), hex(Reference.expand(signed, "chal")));
        Check.due("weight 1: 8/3", number(x.shown(7, 1)).multiply(BigInteger.valueOf(3)).mod(Reference.Q).toString(), "8");
        Check.due("weight 2: 4/-2", x.shown(7, 2), hex(Reference.Q.subtract(BigInteger.TWO)));
        Check.due("weight 4: 2/6", number(x.shown(7, 4)).multiply(BigInteger.valueOf(3)).mod(Reference.Q).toString(), "1");
        for (int set : new int[] {0, 1, 3, 9, 10, 15, 7, 4, 16, 27, 128 | 11, 256 | 11, 1 << 31 | 11, -1, 512,
            Integer.MAX_VALUE, Integer.MIN_VALUE}) {
            refused(x, "choose " + set, () -> { x.choose(set); return 0; }, ARGUMENT);
        }
        Check.due("the tape stays", x.about(5), 1);
    }

    private static void promise7ChooseAgain() {
        Bench x = dealt(3, 5, 7);
        commit(x, 1, 2, 3);
        x.choose(7);
        String r = x.output();
        x.feed(Check.number(9));
        x.other(2);
        Check.due("2 has given one", x.about(4), 2);
        x.choose(7);
        Check.due("nobody has given one", x.about(4), 0);
        Check.due("the same R", x.output(), r);
        refused(x, "2 has given none", () -> x.right(2), ARGUMENT);
        x.choose(6);
        Check.due("another R", x.output().equals(r), false);
        Check.due("1 has no factor", x.show(5, 1), 0);
        x.share(2);
        refused(x, "2 has not committed any more", () -> { x.choose(6); return 0; }, ARGUMENT);
        Check.due("the set stays", x.about(3) * 10 + x.about(4), 62);
        x.share(3);
        Check.due("it signs", x.gather(), 0);
        refused(x, "1 is too few", () -> { x.choose(1); return 0; }, ARGUMENT);
    }

    private static void promise8Share() {
        Bench x = chosen();
        String challenge = x.shown(6, 0);
        String factor = x.shown(5, 1);
        String weight = x.shown(7, 1);
        x.feed("1234");
        for (int i : new int[] {0, -1, 4, 9, Integer.MAX_VALUE, Integer.MIN_VALUE}) {
            refused(x, "share " + i, () -> { x.share(i); return 0; }, INDEX);
        }
        refused(x, "2 is not in the set", () -> { x.share(2); return 0; }, ARGUMENT);
        shares(x, 1, shareOf(x, 1), "share");
        Check.due("after it", x.abouts(), "[2, 3, 4, 5, 1, 2, 4, 32]");
        Check.due("its commitment is gone", x.show(4, 1), 0);
        Check.due("the set stays as chosen", x.shown(6, 0) + x.shown(5, 1) + x.shown(7, 1),
            challenge + factor + weight);
        refused(x, "not another one", () -> { x.share(1); return 0; }, ARGUMENT);
        refusedWithTape(x, Check.number(1).substring(4), "nor by other()", () -> { x.other(1); return 0; }, ARGUMENT);
        refused(x, "it has not committed", () -> { x.choose(5); return 0; }, ARGUMENT);
        Check.due("right all the same", x.right(1), true);
        x.feed(Check.number(9));
        x.other(3);
        refused(x, "3 has given another", () -> { x.share(3); return 0; }, ARGUMENT);
        x.feed(chance(1));
        x.commit(1);
        refused(x, "no set", () -> { x.share(1); return 0; }, STATE);
        refused(x, "no set comes first", () -> { x.share(0); return 0; }, STATE);
        x.choose(5);
        shares(x, 3, shareOf(x, 3), "3's nonces stayed");
        shares(x, 1, shareOf(x, 1), "1's new ones");
        Check.due("signature", x.gather(), 0);
    }

    private static void promise9Other() {
        Bench x = chosen();
        String output = x.output();
        for (String tape : new String[] {"", "00", Check.number(1) + "00", Check.number(1).substring(2)}) {
            refusedWithTape(x, tape, "other by " + tape, () -> { x.other(1); return 0; }, ARGUMENT);
        }
        for (int i : new int[] {0, -1, 4, 9, Integer.MAX_VALUE, Integer.MIN_VALUE}) {
            refusedWithTape(x, Check.number(1), "other " + i, () -> { x.other(i); return 0; }, INDEX);
        }
        refusedWithTape(x, Check.number(1), "2 is not in the set", () -> { x.other(2); return 0; }, ARGUMENT);
        x.feed(MOST);
        x.other(1);
        Check.due("given", x.abouts(), "[2, 3, 5, 5, 1, 0, 4, 33]");
        Check.due("the output stays", x.output(), output);
        Check.due("its commitment stays", x.show(4, 1), 66);
        refusedWithTape(x, Check.number(1), "not another one", () -> { x.other(1); return 0; }, ARGUMENT);
        refused(x, "nor by share()", () -> { x.share(1); return 0; }, ARGUMENT);
        x.choose(5);
        x.share(3);
        refusedWithTape(x, Check.number(1), "after share()", () -> { x.other(3); return 0; }, ARGUMENT);
        x.feed(hex(shareOf(x, 1)));
        x.other(1);
        Check.due("the right one", x.right(1), true);
        Check.due("is as good as share()", x.gather(), 0);
        x.message();
        refusedWithTape(x, Check.number(1), "no set", () -> { x.other(1); return 0; }, STATE);
    }

    private static void promise10Right() {
        Bench x = chosen();
        for (int i : new int[] {0, -1, 4, 9, Integer.MAX_VALUE, Integer.MIN_VALUE}) {
            refused(x, "right " + i, () -> x.right(i), INDEX);
        }
        refused(x, "2 is not in the set", () -> x.right(2), ARGUMENT);
        refused(x, "1 has given none", () -> x.right(1), ARGUMENT);
        BigInteger share = shareOf(x, 1);
        String[] wrong = {hex(share.add(BigInteger.ONE)), hex(share.subtract(BigInteger.ONE)),
            hex(Reference.Q.subtract(share)), Check.number(0), Check.number(1), Q, MOST, BELOW_Q};
        for (String z : wrong) {
            x.choose(5);
            x.feed(z);
            x.other(1);
            Check.due("right " + z, x.right(1), false);
        }
        x.choose(5);
        x.feed(hex(share));
        x.other(1);
        x.feed("77");
        String before = x.abouts();
        Check.due("right", x.right(1), true);
        Check.due("nothing changes", x.abouts(), before);
        x.feed("77");
        x.message();
        refused(x, "no set", () -> x.right(1), STATE);
        x.choose(5);
        Check.throwsDue("to empty the tape", () -> x.change(1), ARGUMENT);
        x.feed(hex(share));
        x.other(1);
        Check.due("right for another message only", x.right(1), false);
        promise10SharesFromQ();
    }

    /** A share of q or more is not right even if q less would be: 2^256 - q is too small to meet one by chance. */
    private static void promise10SharesFromQ() {
        Bench x = dealt(2, 5, 7);
        commit(x, 1, 2);
        x.choose(3);
        x.share(2);
        x.feed(Q);
        x.other(1);
        Check.due("q", x.right(1), false);
        Check.due("q is not gathered", x.gather(), 1);
        Check.due("2 is right", x.right(2), true);
    }

    private static void promise11Gather() {
        Bench x = dealt(4, 5, 7);
        commit(x, 1, 2, 4);
        x.choose(11);
        String r = x.output();
        Check.due("none has given one", x.gather(), 11);
        Check.due("the output stays", x.output(), r);
        BigInteger sum = shareOf(x, 1).add(shareOf(x, 2)).add(shareOf(x, 4)).mod(Reference.Q);
        x.share(2);
        Check.due("1 and 4 are missing", x.gather(), 9);
        x.share(4);
        x.feed(Check.number(8));
        x.other(1);
        String output = x.output();
        x.feed("1234");
        Check.due("1 is wrong", x.gather(), 1);
        Check.due("the output still stays", x.output(), output);
        Check.due("the tape too", x.about(5), 2);
        x.message();
        refused(x, "the set is gone", x::gather, STATE);
        Bench y = dealt(4, 5, 7);
        commit(y, 1, 2, 4);
        y.choose(11);
        y.share(4);
        y.share(1);
        y.share(2);
        String before = y.abouts();
        Check.due("all are right", y.gather(), 0);
        Check.due("the signature", y.output(), r + hex(sum));
        Check.due("only the output changes", y.abouts(), before.replace("32]", "65]"));
        Check.due("once more", y.gather(), 0);
        Check.due("the same", y.output(), r + hex(sum));
        gatherSharesNotBelowQ();
        gatherChangedSecret();
    }

    private static void gatherSharesNotBelowQ() {
        Bench x = chosen();
        x.feed(MOST);
        x.other(1);
        Check.due("one is wrong, one is missing", x.gather(), 5);
        x.share(3);
        Check.due("one is wrong", x.gather(), 1);
        x.message();
        commit(x, 3);
        x.choose(5);
        x.feed(Q);
        x.other(1);
        x.feed(Q);
        x.other(3);
        Check.due("both are wrong", x.gather(), 5);
    }

    private static void gatherChangedSecret() {
        Bench x = chosen();
        x.feed(Check.number(1000));
        x.change(3);
        x.share(1);
        x.share(3);
        Check.due("3's secret is another", x.gather(), 4);
        Check.due("1 is right", x.right(1), true);
        Check.due("3 is not", x.right(3), false);
    }

    /** Two shares that are wrong by amounts that cancel out make a signature that holds. */
    private static void promise11GatherCancelling() {
        Bench x = chosen();
        BigInteger one = shareOf(x, 1).add(BigInteger.TEN).mod(Reference.Q);
        BigInteger three = shareOf(x, 3).subtract(BigInteger.TEN).mod(Reference.Q);
        x.feed(hex(one));
        x.other(1);
        x.feed(hex(three));
        x.other(3);
        Check.due("1 is wrong", x.right(1), false);
        Check.due("3 is wrong", x.right(3), false);
        Check.due("together they hold", x.gather(), 0);
        Check.due("the sum", x.output().substring(66), hex(one.add(three).mod(Reference.Q)));
        x.choose(5);
        Check.due("chosen again, none has given one", x.gather(), 5);
        x.choose(5);
        Check.due("and once more", x.gather(), 5);
        String r = x.output();
        BigInteger sum = one.add(three);
        x.feed(hex(Reference.Q.add(BigInteger.TEN)));
        x.other(1);
        x.feed(hex(sum.subtract(BigInteger.TEN).mod(Reference.Q)));
        x.other(3);
        Check.due("one is not below q, though the sum would hold", x.gather(), 5);
        Check.due("the output stays", x.output(), r);
    }

    private static boolean holds(Bench x, String tape) {
        x.feed(tape);
        boolean answer = x.holds();
        Check.due("holds() empties the tape", x.about(5), 0);
        return answer;
    }

    private static void promise12Holds() {
        Bench x = chosen();
        x.share(1);
        x.share(3);
        x.gather();
        String signature = x.output();
        String before = x.abouts();
        Check.due("the signature holds", holds(x, signature), true);
        Check.due("nothing changes", x.abouts(), before);
        Check.due("the output stays", x.output(), signature);
        for (int k = 0; k < 65; k += 4) {
            byte[] row = Check.bytes(signature);
            row[k] ^= 1;
            Check.due("another byte " + k, holds(x, hex(row)), false);
        }
        for (String tape : new String[] {"", signature.substring(2), signature + "00", signature.substring(0, 128),
            "00".repeat(65), "04" + signature.substring(2), "00" + signature.substring(2), "82" + signature.substring(2),
            "02" + hex(Reference.P) + signature.substring(66), "02" + MOST + signature.substring(66),
            "02" + Check.number(5) + signature.substring(66), signature.substring(0, 66) + Q,
            signature.substring(0, 66) + MOST, signature.substring(0, 66) + Check.number(0)}) {
            Check.due("holds " + tape, holds(x, tape), false);
        }
        for (int bits : new int[] {2, 4, 6, 128, 254}) {
            byte[] row = Check.bytes(signature);
            row[0] ^= (byte) bits;
            Check.due("neither 2 nor 3 first", holds(x, hex(row)), row[0] == 2 || row[0] == 3);
        }
        holdsByTheSecret(x, BigInteger.valueOf(5));
        x.feed("00");
        x.message();
        Check.due("not for another message", holds(x, signature), false);
        x.feed("74657374");
        x.message();
        Check.due("for this one again", holds(x, signature), true);
        x.feed(Check.number(6) + Check.number(7));
        x.deal(2, 3);
        Check.due("not for another key", holds(x, signature), false);
        Bench y = dealt(8, 5, 9, 9, 9);
        y.feed("74657374");
        y.message();
        Check.due("for the same key on another object", holds(y, signature), true);
        zeroAsSum(y);
    }

    /** Signatures that no set made: k * G and k + c * secret for small k, and the same plus q. */
    private static void holdsByTheSecret(Bench x, BigInteger secret) {
        byte[] key = Check.bytes(hexOfPoint(secret));
        for (long k = 1; k <= 6; k++) {
            byte[] r = Check.bytes(hexOfPoint(BigInteger.valueOf(k)));
            BigInteger c = Reference.expand(Reference.join(r, key, Check.bytes("74657374")), "chal");
            BigInteger z = c.multiply(secret).add(BigInteger.valueOf(k)).mod(Reference.Q);
            Check.due(k + " holds", holds(x, hex(r) + hex(z)), true);
            Check.due("not with -R", holds(x, (r[0] == 2 ? "03" : "02") + hex(r).substring(2) + hex(z)), false);
            Check.due("not with -z", holds(x, hex(r) + hex(Reference.Q.subtract(z))), false);
        }
    }

    /** z = 0 makes ZERO on the left; R + c * key is not ZERO but for a chance that nobody meets. */
    private static void zeroAsSum(Bench x) {
        Check.due("z = 0", holds(x, hexOfPoint(BigInteger.TWO) + Check.number(0)), false);
    }

    private static void promise13Show() {
        Bench x = chosen();
        int[] sizes = {33, 33, 32, 33, 66, 32, 32, 32, 32};
        for (int what = 0; what < sizes.length; what++) {
            Check.due("show " + what, x.show(what, 1), sizes[what]);
            Check.due("length " + what, x.about(7), sizes[what]);
        }
        for (int i : EDGES) {
            Check.due("0 whatever i is", x.shown(0, i), hexOfPoint(BigInteger.valueOf(5)));
            Check.due("6 whatever i is", x.shown(6, i), x.shown(6, 1));
            Check.due("8 whatever i is", x.shown(8, i),
                "9f86d081884c7d659a2feaa0c55ad015a3bf4f1b2b0b822cd15d6c15b0f00a08");
            String output = x.output();
            for (int what : new int[] {1, 2, 4, 5, 7}) {
                Check.due("no " + what + " of " + i, x.show(what, i), 0);
            }
            if (i != 0) {
                Check.due("no coefficient " + i, x.show(3, i), 0);
            }
            for (int what : new int[] {-1, 9, 10, Integer.MAX_VALUE, Integer.MIN_VALUE}) {
                Check.due("no show " + what, x.show(what, i), 0);
            }
            Check.due("the output stays", x.output(), output);
        }
        Check.due("4 of one who has not committed", x.show(4, 2), 0);
        Check.due("5 of one outside the set", x.show(5, 2), 0);
        Check.due("7 of one outside the set", x.show(7, 2), 0);
        Check.due("participant 4 of 3", x.show(1, 4), 0);
        Check.due("the last one", x.show(1, 3), 33);
        Check.due("3: i from 0", x.shown(3, 0), hexOfPoint(BigInteger.valueOf(5)));
        Check.due("3: the last", x.shown(3, 1), hexOfPoint(BigInteger.valueOf(7)));
        Check.due("3: one too far", x.show(3, 2), 0);
        x.message();
        for (int what : new int[] {5, 6, 7}) {
            Check.due("no set: show " + what, x.show(what, 1), 0);
        }
        Check.due("commitment without a set", x.show(4, 1), 66);
        Check.due("key without a set", x.show(1, 1), 33);
    }

    private static void promise13ShaOfTheMessage() {
        for (int length = 0; length <= 100; length++) {
            Bench x = new Bench();
            byte[] row = new byte[length];
            Arrays.fill(row, (byte) (200 + length));
            x.feed(row);
            x.message();
            Check.due("SHA of " + length, x.shown(8, 0), hex(Reference.sha(row)));
        }
    }

    private static void promise14Output() {
        Bench x = dealt(3, 5, 7);
        for (int k : EDGES) {
            Check.due("nothing was output", x.output(k), -1);
        }
        x.show(0, 0);
        byte[] key = Check.bytes(hexOfPoint(BigInteger.valueOf(5)));
        for (int k = 0; k < 33; k++) {
            Check.due("byte " + k, x.output(k), key[k] & 255);
        }
        for (int k : new int[] {-1, 33, 34, 65, 66, 1000, Integer.MAX_VALUE, Integer.MIN_VALUE}) {
            Check.due("no byte " + k, x.output(k), -1);
        }
        commit(x, 1);
        x.show(4, 1);
        Check.due("66 bytes", x.output(65) != -1, true);
        Check.due("no 67th", x.output(66), -1);
        x.show(2, 1);
        Check.due("latest: 12", x.output(31), 12);
        Check.due("32 bytes again", x.output(32), -1);
        x.feed(BELOW_Q);
        x.change(1);
        x.show(2, 1);
        Check.due("high bytes are not negative", x.output(0), 255);
    }

    private static void promise15About() {
        Bench x = chosen();
        Check.due("about", x.abouts(), "[2, 3, 5, 5, 0, 0, 4, 33]");
        x.feed(7, 0, 0, 0, 0, 0);
        x.share(3);
        Check.due("about later", x.abouts(), "[2, 3, 1, 5, 4, 7, 4, 32]");
        for (int what : new int[] {-1, 8, 9, Integer.MAX_VALUE, Integer.MIN_VALUE}) {
            Check.due("about " + what, x.about(what), 0);
        }
        x.message();
        Check.due("no set, so none has given a share", x.abouts(), "[2, 3, 1, 0, 0, 0, 7, 32]");
    }

    private static void eightOfEight() {
        Bench x = dealt(8, 1, 2, 3, 4, 5, 6, 7, 8);
        x.feed("ab".repeat(100));
        x.message();
        commit(x, 1, 2, 3, 4, 5, 6, 7, 8);
        x.choose(255);
        BigInteger eighth = shareOf(x, 8);
        for (int i = 1; i <= 7; i++) {
            x.share(i);
        }
        Check.due("8 is missing", x.gather(), 128);
        shares(x, 8, eighth, "the eighth");
        Check.due("eight of eight", x.gather(), 0);
        Check.due("it holds", holds(x, x.output()), true);
    }
}
