import java.math.BigInteger;

/** The boundary cases of promises 7 to 12, sentence by sentence: from the set to the signature. */
final class BoundarySigningTest extends Runs {
    private static final BigInteger ONE = BigInteger.ONE;
    /** The largest number that 32 bytes can tell also with q more. */
    private static final BigInteger LARGEST_WITH_Q = BigInteger.TWO.pow(256).subtract(ONE).subtract(Reference.Q);
    private static final int[] NOT_OF_3 = {0, -1, -31, 4, 5, 8, 9, 33, 257, Integer.MAX_VALUE, Integer.MIN_VALUE,
        Integer.MIN_VALUE + 1};

    private BoundarySigningTest() {
    }

    public static void main(String[] args) {
        fromTheLowestOn();
        asTheCommitmentsAreNow();
        rIsOutputNobodyHasGiven();
        chooseNothingDealt();
        aBitOfNone();
        aBitOfOneNotCommitted();
        fewerThanT();
        aShareIsOutput();
        noncesAndCommitmentAreGone();
        noOtherBeforeItCommits();
        shareNoSet();
        shareNoSuchParticipant();
        shareNotInTheSet();
        shareHasGivenOne();
        otherTakes32Bytes();
        noncesStay();
        otherExceptionsAsForShare();
        otherHasNot32Bytes();
        aShareNotBelowQIsNotRight();
        rightNoSet();
        rightNoSuchParticipant();
        rightHasGivenNone();
        allSharesBelowQ();
        theSignatureHolds();
        notRightOrNotGiven();
        givenForAnotherSet();
        gatherNoSet();
        holdsEmptiesTheTape();
        falseForAnotherLength();
        holdsNothingDealt();
        Check.end();
    }

    private static void other(Bench x, int i, String share) {
        x.feed(share);
        x.other(i);
    }

    private static Bench allCommitted() {
        Bench x = dealt(3, 5, 7);
        commit(x, 1, 2, 3);
        return x;
    }

    private static void asTheCommitmentsAreNow() {
        Check.sentence("Promise 7", "LIST, R and all that hangs on them are as the commitments are now");
        Bench x = allCommitted();
        x.choose(3);
        String first = x.output() + x.shown(5, 1) + x.shown(6, 0);
        x.feed(chance(9));
        x.commit(3);
        x.choose(3);
        Check.due("3 is not in it", x.output() + x.shown(5, 1) + x.shown(6, 0), first);
        x.feed(chance(9));
        x.commit(2);
        x.choose(3);
        Check.due("2 is", x.output().equals(first.substring(0, 66)), false);
        Check.due("1's binding factor", x.shown(5, 1).equals(first.substring(66, 130)), false);
        commit(x, 2);
        x.choose(3);
        Check.due("as before", x.output() + x.shown(5, 1) + x.shown(6, 0), first);
        for (int i = 1; i <= 2; i++) {
            x.share(i);
            Check.due("right", x.right(i), true);
        }
    }

    /** The order in which they have committed does not matter. */
    private static void fromTheLowestOn() {
        Check.sentence("Terms", "LIST is, for each of the set, from the lowest on: its number as 32 bytes, its hiding and "
            + "its binding point as 33 bytes each");
        int[][] orders = {{1, 2, 3, 4, 5, 6, 7, 8}, {8, 7, 6, 5, 4, 3, 2, 1}, {3, 8, 1, 6, 2, 7, 5, 4}};
        for (int[] order : orders) {
            Bench x = dealt(8, 5, 7);
            commit(x, order);
            for (int set : new int[] {3, 129, 192, 255}) {
                x.choose(set);
                StringBuilder list = new StringBuilder();
                for (int i = 1; i <= 8; i++) {
                    list.append((set >> (i - 1) & 1) == 1 ? Check.number(i) + x.shown(4, i) : "");
                }
                for (int i = 1; i <= 8; i++) {
                    String want = (set >> (i - 1) & 1) == 1 ? bindingFactor(x.shown(0, 0), list.toString(), i) : "none";
                    Check.due("binding factor of " + i, x.show(5, i) == 0 ? "none" : x.output(), want);
                }
            }
        }
    }

    /** For a message without bytes. */
    private static String bindingFactor(String key, String list, int i) {
        byte[] message = Reference.sha(Reference.text("FROST-secp256k1-SHA256-v1msg"));
        byte[] commitments = Reference.sha(Reference.text("FROST-secp256k1-SHA256-v1com"), Check.bytes(list));
        byte[] all = Reference.join(Check.bytes(key), message, commitments, Check.bytes(Check.number(i)));
        return hex(Reference.expand(all, "rho"));
    }

    private static void rIsOutputNobodyHasGiven() {
        Check.sentence("Promise 7", "R is output (33 bytes), nobody has given a share");
        Bench x = allCommitted();
        x.choose(7);
        String r = x.output();
        Check.due("33 bytes", r.length(), 66);
        Check.due("about", x.abouts(), "[2, 3, 7, 7, 0, 0, 0, 33]");
        for (int i = 1; i <= 3; i++) {
            other(x, i, Check.number(i));
        }
        Check.due("all have given one", x.about(4), 7);
        x.show(4, 1);
        x.choose(7);
        Check.due("the same R", x.output(), r);
        Check.due("nobody has given one", x.about(4), 0);
        Check.due("gather()", x.gather(), 7);
        for (int i = 1; i <= 3; i++) {
            int who = i;
            refused(x, "right", () -> x.right(who), ARGUMENT);
        }
        x.choose(6);
        Check.due("a smaller set", x.about(3) * 10 + x.about(4), 60);
        Check.due("1 is not in it", x.show(7, 1), 0);
        Check.due("33 bytes again", x.about(7), 33);
    }

    private static void chooseNothingDealt() {
        Check.sentence("Promise 7", "IllegalStateException: nothing was dealt");
        Bench x = new Bench();
        for (int set : new int[] {0, 1, 3, 255, 256, -1, Integer.MAX_VALUE, Integer.MIN_VALUE}) {
            refused(x, "choose(" + set + ")", () -> { x.choose(set); return 0; }, STATE);
        }
    }

    private static void aBitOfNone() {
        Check.sentence("Promise 7", "IllegalArgumentException: a bit is of none");
        for (int n : new int[] {3, 8}) {
            Bench x = dealt(n, 5, 7);
            commit(x, 1, 2, n);
            int all = 3 | 1 << (n - 1);
            x.choose(all);
            for (int bit = n; bit < 32; bit++) {
                int set = all | 1 << bit;
                refused(x, "bit " + bit + " of " + n, () -> { x.choose(set); return 0; }, ARGUMENT);
            }
            refused(x, "all bits", () -> { x.choose(-1); return 0; }, ARGUMENT);
            x.choose(all);
        }
    }

    private static void aBitOfOneNotCommitted() {
        Check.sentence("Promise 7", "or of one who has not committed");
        Bench x = chosen();
        for (int set : new int[] {2, 3, 6, 7}) {
            refused(x, "2 has not: " + set, () -> { x.choose(set); return 0; }, ARGUMENT);
        }
        x.share(3);
        for (int set : new int[] {4, 5, 6, 7}) {
            refused(x, "3 has not any more: " + set, () -> { x.choose(set); return 0; }, ARGUMENT);
        }
        commit(x, 2);
        x.choose(3);
        Bench y = dealt(2, 5, 7);
        refused(y, "nobody has", () -> { y.choose(3); return 0; }, ARGUMENT);
    }

    private static void fewerThanT() {
        Check.sentence("Promise 7", "or they are fewer than T");
        for (int t : new int[] {2, 3, 8}) {
            Bench x = new Bench();
            x.feed(Check.number(3).repeat(t));
            x.deal(t, 8);
            commit(x, 1, 2, 3, 4, 5, 6, 7, 8);
            int enough = (1 << t) - 1 << (8 - t);
            for (int set : new int[] {0, 1, 128, enough & enough - 1, enough & 127}) {
                refused(x, "choose(" + set + ") for " + t, () -> { x.choose(set); return 0; }, ARGUMENT);
            }
            x.choose(enough);
            Check.due(t + " are enough", x.about(3), enough);
            refused(x, "one less", () -> { x.choose(enough & enough - 1); return 0; }, ARGUMENT);
        }
    }

    private static void aShareIsOutput() {
        Check.sentence("Promise 8", "Participant i gives its share, which is output (32 bytes)");
        BigInteger[] wanted = {BigInteger.ZERO, ONE, BigInteger.valueOf(255), ONE.shiftLeft(248),
            Reference.Q.subtract(ONE), LARGEST_WITH_Q};
        for (BigInteger share : wanted) {
            Bench x = Aimed.atShare(share).x;
            x.feed("1234");
            x.share(1);
            Check.due("the share " + share, x.output(), hex(share));
            Check.due("the tape stays", x.about(5), 2);
            Check.due("it is right", x.right(1), true);
            x.share(3);
            Check.due("it is gathered", x.gather(), 0);
        }
    }

    private static void noncesAndCommitmentAreGone() {
        Check.sentence("Promise 8", "its nonces and its commitment are gone then (it has not committed any more; "
            + "the set stays as it was chosen)");
        Bench x = allCommitted();
        x.choose(7);
        String chosen = x.shown(6, 0) + x.shown(5, 1) + x.shown(7, 1) + x.shown(5, 3) + x.shown(7, 3);
        for (int i = 1; i <= 3; i++) {
            x.share(i);
            Check.due("committed", x.about(2), 7 & -1 << i);
            Check.due("commitment of " + i, x.show(4, i), 0);
            Check.due("the set", x.about(3), 7);
            Check.due("given", x.about(4), (1 << i) - 1);
            Check.due("what hangs on the set",
                x.shown(6, 0) + x.shown(5, 1) + x.shown(7, 1) + x.shown(5, 3) + x.shown(7, 3), chosen);
            Check.due("right", x.right(i), true);
        }
        Check.due("gathered", x.gather(), 0);
        refused(x, "nobody is left", () -> { x.choose(7); return 0; }, ARGUMENT);
        Check.due("gathered once more", x.gather(), 0);
    }

    private static void noOtherBeforeItCommits() {
        Check.sentence("Promise 8", "it can't give another one, before it commits again");
        Bench x = allCommitted();
        x.choose(7);
        x.share(2);
        refused(x, "share again", () -> { x.share(2); return 0; }, ARGUMENT);
        x.message();
        refused(x, "no set", () -> { x.share(2); return 0; }, STATE);
        refused(x, "no set with it", () -> { x.choose(7); return 0; }, ARGUMENT);
        x.choose(5);
        refused(x, "not in the set", () -> { x.share(2); return 0; }, ARGUMENT);
        commit(x, 2);
        refused(x, "committed, but no set", () -> { x.share(2); return 0; }, STATE);
        x.choose(7);
        shares(x, 2, shareOf(x, 2), "after it has committed again");
    }

    private static void shareNoSet() {
        Check.sentence("Promise 8", "IllegalStateException: there is no set");
        Bench fresh = new Bench();
        Bench justDealt = dealt(3, 5, 7);
        Bench committed = allCommitted();
        Bench refusedSet = allCommitted();
        Check.throwsDue("a set that is refused", () -> { refusedSet.choose(15); return 0; }, ARGUMENT);
        Bench messaged = chosen();
        messaged.message();
        for (Bench x : new Bench[] {fresh, justDealt, committed, refusedSet, messaged}) {
            for (int i : new int[] {1, 2, 0, 4}) {
                refused(x, "share(" + i + ")", () -> { x.share(i); return 0; }, STATE);
            }
        }
    }

    private static void shareNoSuchParticipant() {
        Check.sentence("Promise 8", "IndexOutOfBoundsException");
        Bench x = chosen();
        for (int i : NOT_OF_3) {
            refused(x, "share(" + i + ")", () -> { x.share(i); return 0; }, INDEX);
        }
    }

    private static void shareNotInTheSet() {
        Check.sentence("Promise 8", "IllegalArgumentException: it is not in the set");
        Bench x = chosen();
        refused(x, "2 has not committed", () -> { x.share(2); return 0; }, ARGUMENT);
        Bench y = allCommitted();
        y.choose(6);
        refused(y, "1 has committed", () -> { y.share(1); return 0; }, ARGUMENT);
        refusedWithTape(y, Check.number(1), "nor by other()", () -> { y.other(1); return 0; }, ARGUMENT);
    }

    private static void shareHasGivenOne() {
        Check.sentence("Promise 8", "or has given one (this or other())");
        Bench x = chosen();
        x.share(1);
        other(x, 3, MOST);
        for (int i : new int[] {1, 3}) {
            refused(x, "share(" + i + ")", () -> { x.share(i); return 0; }, ARGUMENT);
            refusedWithTape(x, Check.number(1), "other(" + i + ")", () -> { x.other(i); return 0; }, ARGUMENT);
        }
        Check.due("the first ones stay", x.gather(), 4);
    }

    private static void otherTakes32Bytes() {
        Check.sentence("Promise 9", "Participant i gives the tape's 32 bytes as its share (it is empty then, in any case)");
        for (String share : new String[] {Check.number(0), Check.number(1), BELOW_Q, Q, MOST}) {
            Bench x = chosen();
            String r = x.output();
            other(x, 3, share);
            Check.due("about", x.abouts(), "[2, 3, 5, 5, 4, 0, 4, 33]");
            Check.due("the output stays", x.output(), r);
            Check.due("not right", x.right(3), false);
        }
        Bench y = chosen();
        String right = hex(shareOf(y, 3));
        other(y, 3, right);
        Check.due("the right one", y.right(3), true);
    }

    private static void noncesStay() {
        Check.sentence("Promise 9", "its nonces stay");
        Bench x = chosen();
        BigInteger share = shareOf(x, 3);
        String commitment = x.shown(4, 3);
        other(x, 3, Check.number(5));
        Check.due("its commitment stays", x.shown(4, 3), commitment);
        Check.due("it has committed", x.about(2), 5);
        x.choose(5);
        shares(x, 3, share, "its nonces stay");
    }

    private static void otherExceptionsAsForShare() {
        Check.sentence("Promise 9", "Exceptions as for share()");
        Bench fresh = new Bench();
        Bench committed = allCommitted();
        Bench messaged = chosen();
        messaged.message();
        for (Bench x : new Bench[] {fresh, committed, messaged}) {
            for (int i : new int[] {1, 0, 4}) {
                refusedWithTape(x, Check.number(1), "no set: other(" + i + ")", () -> { x.other(i); return 0; }, STATE);
                refusedWithTape(x, "01", "no set: other(" + i + ")", () -> { x.other(i); return 0; }, STATE);
            }
        }
        Bench x = chosen();
        for (int i : NOT_OF_3) {
            refusedWithTape(x, Check.number(1), "other(" + i + ")", () -> { x.other(i); return 0; }, INDEX);
            refusedWithTape(x, "01", "other(" + i + ") by 1", () -> { x.other(i); return 0; }, INDEX);
        }
        refusedWithTape(x, Check.number(1), "2 is not in the set", () -> { x.other(2); return 0; }, ARGUMENT);
        other(x, 1, Check.number(1));
        refusedWithTape(x, Check.number(1), "after other()", () -> { x.other(1); return 0; }, ARGUMENT);
        x.share(3);
        refusedWithTape(x, Check.number(1), "after share()", () -> { x.other(3); return 0; }, ARGUMENT);
    }

    private static void otherHasNot32Bytes() {
        Check.sentence("Promise 9", "IllegalArgumentException also if the tape has not 32 bytes");
        Bench x = chosen();
        for (int length : new int[] {0, 1, 31, 33, 64, 65, 300}) {
            refusedWithTape(x, "01".repeat(length), "other by " + length, () -> { x.other(1); return 0; }, ARGUMENT);
        }
        Check.due("nobody has given one", x.about(4), 0);
    }

    private static void aShareNotBelowQIsNotRight() {
        Check.sentence("Promise 10", "Whether the share that i gave is RIGHT (one that is not below q is not)");
        for (BigInteger share : new BigInteger[] {BigInteger.ZERO, ONE, BigInteger.valueOf(977), LARGEST_WITH_Q}) {
            Bench below = Aimed.atShare(share).x;
            other(below, 1, hex(share));
            Check.due(share + " is right", below.right(1), true);
            below.share(3);
            Check.due(share + " is gathered", below.gather(), 0);
            Bench above = Aimed.atShare(share).x;
            other(above, 1, hex(share.add(Reference.Q)));
            Check.due(share + " + q is not right", above.right(1), false);
            above.share(3);
            Check.due(share + " + q is not gathered", above.gather(), 1);
        }
        Bench highest = Aimed.atShare(Reference.Q.subtract(ONE)).x;
        other(highest, 1, BELOW_Q);
        Check.due("q - 1 is right", highest.right(1), true);
        other(highest, 3, MOST);
        highest.feed("1234");
        String before = highest.state() + highest.tape();
        Check.due("2^256 - 1 is not", highest.right(3), false);
        Check.due("q - 1 is right still", highest.right(1), true);
        Check.due("looking changes nothing", highest.state() + highest.tape(), before);
    }

    private static void rightNoSet() {
        Check.sentence("Promise 10", "IllegalStateException: there is no set");
        Bench fresh = new Bench();
        Bench committed = allCommitted();
        Bench messaged = chosen();
        messaged.share(1);
        messaged.message();
        Bench again = chosen();
        again.share(1);
        commit(again, 2);
        for (Bench x : new Bench[] {fresh, committed, messaged, again}) {
            for (int i : new int[] {1, 3, 0, 4}) {
                refused(x, "right(" + i + ")", () -> x.right(i), STATE);
            }
        }
    }

    private static void rightNoSuchParticipant() {
        Check.sentence("Promise 10", "IndexOutOfBoundsException");
        Bench x = chosen();
        x.share(1);
        for (int i : NOT_OF_3) {
            refused(x, "right(" + i + ")", () -> x.right(i), INDEX);
        }
    }

    private static void rightHasGivenNone() {
        Check.sentence("Promise 10", "IllegalArgumentException: i has given none");
        Bench x = chosen();
        for (int i = 1; i <= 3; i++) {
            int who = i;
            refused(x, "right(" + i + ")", () -> x.right(who), ARGUMENT);
        }
        x.share(1);
        refused(x, "only 1 has", () -> x.right(3), ARGUMENT);
        Check.due("1 has", x.right(1), true);
        commit(x, 1);
        x.choose(5);
        refused(x, "1 has given none in this set", () -> x.right(1), ARGUMENT);
    }

    private static void allSharesBelowQ() {
        Check.sentence("Promise 11", "If all of the set have given shares below q");
        Bench x = chosen();
        BigInteger z = shareOf(x, 1).add(shareOf(x, 3)).mod(Reference.Q);
        BigInteger[] first = {BigInteger.ZERO, ONE, BigInteger.TEN, LARGEST_WITH_Q};
        for (BigInteger share : first) {
            for (int from = 1; from <= 3; from += 2) {
                x.choose(5);
                other(x, from, hex(share));
                other(x, 4 - from, hex(z.subtract(share).mod(Reference.Q)));
                Check.due("the sum holds", x.gather(), 0);
                x.choose(5);
                String r = x.output();
                other(x, from, hex(share.add(Reference.Q)));
                other(x, 4 - from, hex(z.subtract(share).mod(Reference.Q)));
                Check.due("the sum would hold, but for q more", x.gather(), 5);
                Check.due("the output stays", x.output(), r);
            }
        }
    }

    private static void theSignatureHolds() {
        Check.sentence("Promise 11", "and the signature of these holds for the message and the group key, "
            + "it is output (65 bytes): 0");
        for (int set : new int[] {3, 7}) {
            Bench x = allCommitted();
            x.choose(set);
            String r = x.output();
            BigInteger z = BigInteger.ZERO;
            for (int i = 1; i <= Integer.bitCount(set); i++) {
                z = z.add(shareOf(x, i)).mod(Reference.Q);
                x.share(i);
            }
            x.feed("1234");
            Check.due("gather()", x.gather(), 0);
            Check.due("the signature", x.output(), r + hex(z));
            Check.due("about", x.abouts(), set == 3 ? "[2, 3, 4, 3, 3, 2, 0, 65]" : "[2, 3, 0, 7, 7, 2, 0, 65]");
            x.show(8, 0);
            Check.due("once more", x.gather(), 0);
            Check.due("output again", x.output(), r + hex(z));
        }
    }

    private static void notRightOrNotGiven() {
        Check.sentence("Promise 11", "Else, as bits, those whose shares are not right, and those who have given none "
            + "(the output stays)");
        String[] kinds = {"none", "right", "wrong", "not below q"};
        for (int turn = 0; turn < 64; turn++) {
            int[] kind = {turn & 3, turn >> 2 & 3, turn >> 4};
            Bench x = dealt(4, 5, 7);
            commit(x, 1, 2, 4);
            x.choose(11);
            int[] who = {1, 2, 4};
            int bits = 0;
            for (int k = 0; k < 3; k++) {
                give(x, who[k], kind[k]);
                bits |= kind[k] == 1 ? 0 : 1 << (who[k] - 1);
            }
            String before = x.output();
            String what = kinds[kind[0]] + ", " + kinds[kind[1]] + ", " + kinds[kind[2]];
            Check.due(what, x.gather(), bits);
            Check.due(what + ": output", x.output().length(), bits == 0 ? 130 : before.length());
            Check.due(what + ": the output stays", x.output().equals(before), bits != 0);
            Check.due(what + ": again", x.gather(), bits);
        }
    }

    /** Shares of sets that were chosen before do not count, however right they would be. */
    private static void givenForAnotherSet() {
        Check.sentence("Promise 11", "and those who have given none");
        Bench x = chosen();
        String first = hex(shareOf(x, 1));
        String third = hex(shareOf(x, 3));
        for (int turn = 0; turn < 3; turn++) {
            other(x, 1, first);
            other(x, 3, third);
            Check.due("all have given", x.gather(), 0);
            for (int again = 0; again < 3; again++) {
                x.choose(5);
                Check.due("chosen again, none has", x.gather(), 5);
                Check.due("none is told", x.about(4), 0);
            }
            other(x, 3, third);
            Check.due("3 alone has", x.gather(), 1);
            x.choose(5);
            Check.due("and has not now", x.gather(), 5);
            other(x, 1, first);
            Check.due("1 alone has", x.gather(), 4);
            x.choose(5);
        }
    }

    private static void give(Bench x, int i, int kind) {
        if (kind == 1) {
            x.share(i);
        } else if (kind != 0) {
            other(x, i, kind == 2 ? Check.number(i) : MOST);
        }
    }

    private static void gatherNoSet() {
        Check.sentence("Promise 11", "IllegalStateException: there is no set");
        Bench fresh = new Bench();
        Bench justDealt = dealt(3, 5, 7);
        Bench committed = allCommitted();
        Bench messaged = chosen();
        messaged.share(1);
        messaged.share(3);
        messaged.gather();
        messaged.message();
        Bench again = chosen();
        again.share(1);
        again.share(3);
        commit(again, 1);
        for (Bench x : new Bench[] {fresh, justDealt, committed, messaged, again}) {
            refused(x, "gather()", x::gather, STATE);
        }
    }

    private static String signature() {
        Bench x = chosen();
        x.share(1);
        x.share(3);
        x.gather();
        return x.output();
    }

    private static void holdsEmptiesTheTape() {
        Check.sentence("Promise 12", "Whether the tape's 65 bytes (it is empty then, in any case) hold as a signature "
            + "for the message and the group key");
        String signature = signature();
        Bench x = dealt(3, 5, 7);
        x.feed("74657374");
        x.message();
        String before = x.state();
        for (String tape : new String[] {signature, "00".repeat(65), "ff".repeat(65), signature}) {
            x.feed(tape);
            Check.due("holds()", x.holds(), tape.equals(signature));
            Check.due("the tape is empty", x.about(5), 0);
            Check.due("nothing else changes", x.state(), before);
        }
        Bench set = chosen();
        set.share(1);
        String inSet = set.state();
        set.feed(signature);
        Check.due("holds() with a set", set.holds(), true);
        Check.due("the set stays", set.state(), inSet);
        set.feed("7465737400");
        set.message();
        set.feed(signature);
        Check.due("another message", set.holds(), false);
        Bench other = dealt(3, 6, 7);
        other.feed("74657374");
        other.message();
        other.feed(signature);
        Check.due("another key", other.holds(), false);
    }

    private static void falseForAnotherLength() {
        Check.sentence("Promise 12", "false for another length");
        String signature = signature();
        Bench x = chosen();
        String before = x.state();
        for (String tape : new String[] {"", signature.substring(0, 2), signature.substring(0, 66), signature.substring(66),
            signature.substring(0, 128), signature.substring(2), signature + "00", "00" + signature,
            signature + signature, signature.repeat(4)}) {
            x.feed(tape);
            Check.due(tape.length() / 2 + " bytes", x.holds(), false);
            Check.due("the tape is empty", x.about(5), 0);
        }
        Check.due("nothing else changes", x.state(), before);
        x.feed(signature);
        Check.due("65 bytes", x.holds(), true);
        String endsIn0 = signatureThatEndsIn0();
        x.feed(endsIn0);
        Check.due("65 bytes, the last of them 0", x.holds(), true);
        x.feed(endsIn0.substring(0, 128));
        Check.due("without that 0", x.holds(), false);
    }

    /** For "test" and the group key 5 * G: R is k * G, and z is k + c * 5, for the first k that makes such a z. */
    private static String signatureThatEndsIn0() {
        BigInteger five = BigInteger.valueOf(5);
        byte[] key = Check.bytes(hexOfPoint(five));
        BigInteger[] r = null;
        for (long k = 1; k < 100_000; k++) {
            r = Reference.sum(r, Reference.G);
            byte[] row = Reference.bytes(r);
            BigInteger c = Reference.expand(Reference.join(row, key, Reference.text("test")), "chal");
            BigInteger z = c.multiply(five).add(BigInteger.valueOf(k)).mod(Reference.Q);
            if (z.byteValue() == 0) {
                return hex(row) + hex(z);
            }
        }
        throw new AssertionError("none was found");
    }

    private static void holdsNothingDealt() {
        Check.sentence("Promise 12", "IllegalStateException: nothing was dealt");
        Bench x = new Bench();
        x.feed("74657374");
        x.message();
        for (String tape : new String[] {signature(), "", "00", "00".repeat(300)}) {
            refusedWithTape(x, tape, "holds()", x::holds, STATE);
        }
    }
}
