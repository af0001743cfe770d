import java.math.BigInteger;

/** The boundary cases of promises 4 to 6, sentence by sentence: dealing, changing, committing. */
final class BoundaryDealingTest extends Runs {
    private static final BigInteger ONE = BigInteger.ONE;
    private static final int[] NOT_OF_3 = {0, -1, -31, 4, 5, 8, 9, 33, 257, Integer.MAX_VALUE, Integer.MIN_VALUE,
        Integer.MIN_VALUE + 1};

    private BoundaryDealingTest() {
    }

    public static void main(String[] args) {
        dealEmptiesTheTape();
        allIsDealtAnew();
        fewerAreDealtAnew();
        tOrNIsNotAsTold();
        theTapeHasAnotherLength();
        aScalarIs0OrNotBelowQ();
        aSecretWouldBe0();
        changeTakes32Bytes();
        whetherItFitsNow();
        theKeyStays();
        changeNothingDealt();
        changeNoSuchParticipant();
        theTapeIsNoScalar();
        commitTakes64Bytes();
        whatItHadCommittedIsGone();
        noSetAfterCommit();
        commitNothingDealt();
        commitNoSuchParticipant();
        theTapeHasNot64Bytes();
        Check.end();
    }

    private static void deals(Bench x, String tape, int t, int n, boolean fine) {
        x.feed(tape);
        Check.due("deal(" + t + ", " + n + ") by " + tape, Check.answer(() -> { x.deal(t, n); return "dealt"; }),
            fine ? "dealt" : "IllegalArgumentException");
        Check.due("the tape is empty", x.about(5), 0);
    }

    private static void dealEmptiesTheTape() {
        Check.sentence("Promise 4", "(it is empty then, in any case)");
        Bench x = new Bench();
        deals(x, Check.number(5).repeat(2), 2, 3, true);
        deals(x, "", 2, 3, false);
        deals(x, "00", 2, 3, false);
        deals(x, Check.number(5).repeat(2), 1, 3, false);
        deals(x, Check.number(5).repeat(2), 2, 9, false);
        deals(x, Check.number(5) + Check.number(0), 2, 3, false);
        deals(x, Check.number(5) + Q, 2, 3, false);
        deals(x, BELOW_Q + Check.number(1), 2, 3, false);
        deals(x, "11".repeat(300), 2, 3, false);
    }

    private static void allIsDealtAnew() {
        Check.sentence("Promise 4", "all is dealt anew; nobody has committed, there is no set");
        Bench x = chosen();
        x.share(1);
        x.feed(Check.number(9));
        x.other(3);
        x.feed(Check.number(1));
        x.change(2);
        x.show(0, 0);
        x.feed(Check.number(6) + Check.number(8));
        x.deal(2, 3);
        Check.due("about", x.abouts(), "[2, 3, 0, 0, 0, 0, 4, 33]");
        Check.due("the output stays", x.output(), hexOfPoint(BigInteger.valueOf(5)));
        for (int i = 1; i <= 3; i++) {
            int who = i;
            BigInteger secret = BigInteger.valueOf(6 + 8 * i);
            Check.due("secret", x.shown(2, i), hex(secret));
            Check.due("key", x.shown(1, i), hexOfPoint(secret));
            Check.due("commitment", x.show(4, i), 0);
            Check.due("binding factor", x.show(5, i), 0);
            Check.due("weight", x.show(7, i), 0);
            refused(x, "share", () -> { x.share(who); return 0; }, STATE);
        }
        Check.due("challenge", x.show(6, 0), 0);
        Check.due("group key", x.shown(0, 0), hexOfPoint(BigInteger.valueOf(6)));
        Check.due("a1", x.shown(3, 1), hexOfPoint(BigInteger.valueOf(8)));
        refused(x, "gather", x::gather, STATE);
        refused(x, "choose", () -> { x.choose(5); return 0; }, ARGUMENT);
        sameDealtAnew();
    }

    /** The very same scalars once more: what hung on the first time is gone all the same. */
    private static void sameDealtAnew() {
        Bench x = chosen();
        x.feed(Check.number(1));
        x.change(2);
        x.feed(Check.number(5) + Check.number(7));
        x.deal(2, 3);
        Check.due("about", x.abouts(), "[2, 3, 0, 0, 0, 0, 4, 33]");
        Check.due("2's secret is dealt again", x.shown(2, 2), Check.number(19));
        refused(x, "right", () -> x.right(1), STATE);
        commit(x, 1, 3);
        x.choose(5);
        x.share(1);
        x.share(3);
        Check.due("it signs", x.gather(), 0);
    }

    private static void fewerAreDealtAnew() {
        Check.sentence("Promise 4", "all is dealt anew");
        Bench x = dealt(8, 1, 2, 3, 4, 5, 6, 7, 8);
        commit(x, 1, 2, 3, 4, 5, 6, 7, 8);
        x.choose(255);
        x.feed(Check.number(5) + Check.number(7));
        x.deal(2, 2);
        for (int i = 3; i <= 8; i++) {
            int who = i;
            Check.due("key of " + i, x.show(1, i), 0);
            Check.due("secret of " + i, x.show(2, i), 0);
            Check.due("commitment of " + i, x.show(4, i), 0);
            Check.due("coefficient " + (i - 1), x.show(3, i - 1), 0);
            refusedWithTape(x, Check.number(1), "change", () -> x.change(who), INDEX);
            refusedWithTape(x, chance(1), "commit", () -> { x.commit(who); return 0; }, INDEX);
        }
        commit(x, 1, 2);
        Check.due("committed", x.about(2), 3);
        refused(x, "the third is none", () -> { x.choose(7); return 0; }, ARGUMENT);
        x.choose(3);
        x.share(2);
        x.share(1);
        Check.due("two of two", x.gather(), 0);
    }

    private static void tOrNIsNotAsTold() {
        Check.sentence("Promise 4", "IllegalArgumentException: T or N is not as told");
        Bench x = chosen();
        int[][] wrong = {{1, 2}, {1, 1}, {0, 0}, {0, 8}, {-1, -1}, {2, 1}, {2, 0}, {2, -8}, {2, 9}, {2, 10}, {2, 1 << 20},
            {2, Integer.MAX_VALUE}, {2, Integer.MIN_VALUE}, {Integer.MIN_VALUE, 2}, {Integer.MAX_VALUE, Integer.MAX_VALUE},
            {1 << 27, 1 << 27}, {(1 << 27) + 2, 8}, {(1 << 28) + 2, Integer.MAX_VALUE}, {Integer.MIN_VALUE + 2, 8}};
        for (int[] size : wrong) {
            String tape = Check.number(5).repeat(size[0] == 1 ? 1 : 2);
            refusedWithTape(x, tape, "deal(" + size[0] + ", " + size[1] + ")",
                () -> { x.deal(size[0], size[1]); return 0; }, ARGUMENT);
        }
        Bench y = dealt(3, 5, 7);
        refusedWithTape(y, "", "deal(0, 0) by nothing", () -> { y.deal(0, 0); return 0; }, ARGUMENT);
        refusedWithTape(y, "", "deal(0, 3) by nothing", () -> { y.deal(0, 3); return 0; }, ARGUMENT);
        refusedWithTape(y, Check.number(5).repeat(9), "nine of nine", () -> { y.deal(9, 9); return 0; }, ARGUMENT);
        refusedWithTape(y, Check.number(5).repeat(4), "four of three", () -> { y.deal(4, 3); return 0; }, ARGUMENT);
        deals(y, Check.number(5).repeat(2), 2, 2, true);
        deals(y, Check.number(5).repeat(2), 2, 8, true);
        deals(y, Check.number(5).repeat(8), 8, 8, true);
    }

    private static void theTapeHasAnotherLength() {
        Check.sentence("Promise 4", "the tape has another length");
        for (int t = 2; t <= 8; t++) {
            Bench x = dealt(8, 5, 7);
            String good = Check.number(5).repeat(t);
            int size = t;
            for (String tape : new String[] {"", good.substring(2), good.substring(64), good + "05",
                t == 8 ? good + "05".repeat(44) : good + Check.number(5)}) {
                refusedWithTape(x, tape, t + " by " + tape.length() / 2, () -> { x.deal(size, 8); return 0; }, ARGUMENT);
            }
            deals(x, good, t, 8, true);
        }
    }

    private static void aScalarIs0OrNotBelowQ() {
        Check.sentence("Promise 4", "a scalar is 0 or not below q");
        for (int t = 2; t <= 8; t += 3) {
            for (int k = 0; k < t; k++) {
                String before = Check.number(1000).repeat(k);
                String behind = Check.number(1000).repeat(t - 1 - k);
                Bench x = dealt(3, 5, 7);
                int size = t;
                for (String scalar : new String[] {Check.number(0), Q, hex(Reference.Q.add(ONE)), MOST}) {
                    refusedWithTape(x, before + scalar + behind, scalar + " as a" + k,
                        () -> { x.deal(size, 8); return 0; }, ARGUMENT);
                }
                deals(x, before + BELOW_Q + behind, t, 8, true);
                Check.due("q - 1 as a" + k, x.shown(3, k), hexOfPoint(Reference.Q.subtract(ONE)));
                deals(x, before + Check.number(1) + behind, t, 8, true);
                Check.due("1 as a" + k, x.shown(3, k), hexOfPoint(ONE));
            }
        }
    }

    private static void aSecretWouldBe0() {
        Check.sentence("Promise 4", "or a participant's secret would be 0");
        for (int i = 1; i <= 8; i++) {
            BigInteger a1 = BigInteger.valueOf(1000 + i);
            BigInteger at = BigInteger.valueOf(i);
            String line = hex(Reference.Q.subtract(a1.multiply(at))) + hex(a1);
            String curve = hex(Reference.Q.subtract(a1.multiply(at).add(at.multiply(at)))) + hex(a1) + hex(ONE);
            for (int n = 2; n <= 8; n++) {
                Bench x = dealt(4, 5, 7);
                deals(x, line, 2, n, n < i);
                Check.due("N", x.about(1), n < i ? n : 4);
                if (n >= 3) {
                    deals(x, curve, 3, n, n < i);
                    Check.due("T", x.about(0), n < i ? 3 : 2);
                }
            }
        }
        Bench x = chosen();
        refusedWithTape(x, hex(Reference.Q.subtract(BigInteger.TWO)) + hex(ONE), "0 for 2",
            () -> { x.deal(2, 3); return 0; }, ARGUMENT);
    }

    private static void changes(Bench x, int i, String secret, boolean fits) {
        x.feed(secret);
        Check.due(i + " changes to " + secret, x.change(i), fits);
        Check.due("the tape is empty", x.about(5), 0);
        Check.due("its secret", x.shown(2, i), secret);
    }

    private static void changeTakes32Bytes() {
        Check.sentence("Promise 5", "Participant i's secret becomes the tape's 32 bytes (it is empty then, in any case)");
        Bench x = dealt(3, 5, 7);
        changes(x, 1, Check.number(0), false);
        changes(x, 1, BELOW_Q, false);
        changes(x, 3, Check.number(1), false);
        changes(x, 3, "01" + "00".repeat(31), false);
        Check.due("2 has its own", x.shown(2, 2), Check.number(19));
        for (String tape : new String[] {"", "00", Q}) {
            refusedWithTape(x, tape, "change by " + tape, () -> x.change(2), ARGUMENT);
            refusedWithTape(x, tape, "change of 4", () -> x.change(4), INDEX);
        }
        secretOf0Signs();
    }

    /** A secret of 0 commits and signs like another, though its share is not right. */
    private static void secretOf0Signs() {
        Bench x = dealt(3, 5, 7);
        changes(x, 1, Check.number(0), false);
        commit(x, 1, 2);
        x.choose(3);
        shares(x, 1, shareOf(x, 1), "share by 0");
        x.share(2);
        Check.due("1 is not right", x.gather(), 1);
    }

    private static void whetherItFitsNow() {
        Check.sentence("Promise 5", "whether it fits now");
        Bench x = dealt(8, 5, 7, 9);
        for (int i : new int[] {1, 2, 7, 8}) {
            BigInteger dealt = BigInteger.valueOf(5 + 7 * i + 9 * i * i);
            changes(x, i, hex(dealt), true);
            changes(x, i, hex(dealt.add(ONE)), false);
            changes(x, i, hex(dealt.subtract(ONE)), false);
            changes(x, i, hex(Reference.Q.subtract(dealt)), false);
            changes(x, i, Check.number(5), false);
            changes(x, i, Check.number(5 + 7 * (i + 1) + 9 * (i + 1) * (i + 1)), false);
            changes(x, i, hex(dealt), true);
        }
        x.feed(Check.number(6) + Check.number(7));
        x.deal(2, 3);
        changes(x, 1, Check.number(13), true);
        changes(x, 1, Check.number(21), false);
    }

    private static void theKeyStays() {
        Check.sentence("Promise 5", "Its key stays");
        Bench x = chosen();
        String key = x.shown(1, 1);
        String commitment = x.shown(4, 1);
        changes(x, 1, Check.number(999), false);
        Check.due("the key", x.shown(1, 1), key);
        Check.due("the commitment", x.shown(4, 1), commitment);
        Check.due("all else", x.abouts(), "[2, 3, 5, 5, 0, 0, 4, 66]");
        x.share(1);
        Check.due("a share by another secret", x.right(1), false);
        changes(x, 1, Check.number(12), true);
        Check.due("the share that was given stays", x.right(1), false);
        Bench y = chosen();
        y.share(1);
        changes(y, 1, Check.number(999), false);
        Check.due("the key stays, so the share is right", y.right(1), true);
        y.share(3);
        Check.due("and is gathered", y.gather(), 0);
    }

    private static void changeNothingDealt() {
        Check.sentence("Promise 5", "IllegalStateException: nothing was dealt");
        Bench x = new Bench();
        refusedWithTape(x, Check.number(0), "change", () -> x.change(1), STATE);
        deals(x, Check.number(0).repeat(2), 2, 2, false);
        refusedWithTape(x, Check.number(0), "change after a refused deal", () -> x.change(1), STATE);
    }

    private static void changeNoSuchParticipant() {
        Check.sentence("Promise 5", "IndexOutOfBoundsException");
        Bench x = chosen();
        for (int i : NOT_OF_3) {
            refusedWithTape(x, Check.number(5), "change of " + i, () -> x.change(i), INDEX);
            refusedWithTape(x, MOST, "change of " + i + " by no scalar", () -> x.change(i), INDEX);
        }
    }

    private static void theTapeIsNoScalar() {
        Check.sentence("Promise 5", "IllegalArgumentException: the tape is no scalar");
        Bench x = chosen();
        String one = Check.number(1);
        for (String tape : new String[] {"", "01", one.substring(2), one + "00", "00" + one, one + one, Q,
            hex(Reference.Q.add(ONE)), MOST, "00".repeat(300)}) {
            refusedWithTape(x, tape, "change by " + tape, () -> x.change(1), ARGUMENT);
        }
    }

    private static void commitTakes64Bytes() {
        Check.sentence("Promise 6", "Participant i commits by the tape's 64 bytes, 32 for hiding, 32 for binding "
            + "(it is empty then, in any case)");
        for (String tape : new String[] {"00".repeat(64), "ff".repeat(64), Q + BELOW_Q, chance(3)}) {
            for (int i : new int[] {1, 8}) {
                Bench x = dealt(8, 5, 7);
                x.feed(tape);
                x.commit(i);
                Check.due("the tape is empty", x.about(5), 0);
                byte[] secret = Reference.bytes(BigInteger.valueOf(5 + 7 * i));
                byte[] hiding = Check.bytes(tape.substring(0, 64));
                byte[] binding = Check.bytes(tape.substring(64));
                Check.due("commitment", x.shown(4, i),
                    hexOfPoint(Reference.expand(Reference.join(hiding, secret), "nonce"))
                    + hexOfPoint(Reference.expand(Reference.join(binding, secret), "nonce")));
                Check.due("committed", x.about(2), 1 << (i - 1));
            }
        }
    }

    private static void whatItHadCommittedIsGone() {
        Check.sentence("Promise 6", "what it had committed before is gone");
        Bench x = dealt(3, 5, 7);
        commit(x, 1, 2);
        String before = x.shown(4, 1);
        x.feed(chance(9));
        x.commit(1);
        Check.due("another commitment", x.shown(4, 1).equals(before), false);
        Check.due("committed", x.about(2), 3);
        x.choose(3);
        BigInteger secret = BigInteger.valueOf(12);
        BigInteger factor = number(x.shown(5, 1));
        BigInteger part = number(x.shown(6, 0)).multiply(number(x.shown(7, 1))).multiply(secret);
        BigInteger share = nonce(9, 0, secret).add(nonce(9, 1, secret).multiply(factor)).add(part);
        shares(x, 1, share.mod(Reference.Q), "by the nonces of the second time");
        commit(x, 1);
        Check.due("committed by the first bytes again", x.shown(4, 1), before);
    }

    private static void noSetAfterCommit() {
        Check.sentence("Promise 6", "there is no set any more");
        for (int i = 1; i <= 3; i++) {
            Bench x = chosen();
            x.share(1);
            commit(x, i);
            Check.due("set and given", x.about(3) * 10 + x.about(4), 0);
            Check.due("challenge", x.show(6, 0), 0);
            Check.due("binding factor", x.show(5, 3), 0);
            Check.due("weight", x.show(7, 3), 0);
            refused(x, "share", () -> { x.share(3); return 0; }, STATE);
            refused(x, "right", () -> x.right(1), STATE);
            refused(x, "gather", x::gather, STATE);
            refusedWithTape(x, Check.number(1), "other", () -> { x.other(3); return 0; }, STATE);
            Check.due("message and output", x.about(6) * 100 + x.about(7), 432);
        }
    }

    private static void commitNothingDealt() {
        Check.sentence("Promise 6", "IllegalStateException: nothing was dealt");
        Bench x = new Bench();
        refusedWithTape(x, chance(1), "commit", () -> { x.commit(1); return 0; }, STATE);
        deals(x, Check.number(5).repeat(2), 2, 9, false);
        refusedWithTape(x, chance(1), "commit after a refused deal", () -> { x.commit(1); return 0; }, STATE);
    }

    private static void commitNoSuchParticipant() {
        Check.sentence("Promise 6", "IndexOutOfBoundsException");
        Bench x = chosen();
        for (int i : NOT_OF_3) {
            refusedWithTape(x, chance(1), "commit of " + i, () -> { x.commit(i); return 0; }, INDEX);
            refusedWithTape(x, "00", "commit of " + i + " by 1", () -> { x.commit(i); return 0; }, INDEX);
        }
    }

    private static void theTapeHasNot64Bytes() {
        Check.sentence("Promise 6", "IllegalArgumentException: the tape has not 64 bytes");
        Bench x = chosen();
        for (int length : new int[] {0, 1, 32, 63, 65, 96, 128, 300}) {
            for (int i = 1; i <= 2; i++) {
                int who = i;
                refusedWithTape(x, "5a".repeat(length), "commit by " + length, () -> { x.commit(who); return 0; }, ARGUMENT);
            }
        }
        Check.due("2 has not committed", x.about(2), 5);
    }
}
