import java.math.BigInteger;
import java.util.ArrayList;
import java.util.List;
import java.util.function.Consumer;
import java.util.function.Function;

/** The boundary cases that the document names before its promises, sentence by sentence. */
final class BoundaryTermsTest extends Runs {
    private static final BigInteger ONE = BigInteger.ONE;
    private static final BigInteger TWO = BigInteger.TWO;

    private BoundaryTermsTest() {
    }

    public static void main(String[] args) {
        atMost512Calls();
        scalarsAre0ToQLess1();
        scalarsAreReckonedModuloQ();
        sharesAreSummedModuloQ();
        sumsWithZero();
        sumsOfEqualPoints();
        sumsOfCoefficientPoints();
        equalCommitments();
        evenAndOddY();
        participantsAre1ToN();
        anyTAreEnough();
        tAndNAsTold();
        noCoefficientIs0();
        messageUpTo100Bytes();
        setOfCommittedAtLeastT();
        holdsIfTheFirstIsAPoint();
        holdsIfTheSecondIsBelowQ();
        exceptionsInOrder();
        whatThrowsChangesNothing();
        Check.end();
    }

    private static void atMost512Calls() {
        Check.sentence("What it is", "An object is used for at most 512 calls after it has been made");
        same512th("gather()", x -> { x.share(1); x.share(3); }, Bench::gather);
        same512th("the signature's last byte", x -> { x.share(1); x.share(3); x.gather(); }, x -> x.output(64));
        same512th("R's first byte", x -> x.choose(5), x -> x.output(0));
        same512th("the share's last byte", x -> x.share(3), x -> x.output(31));
        same512th("right(1)", x -> x.share(1), x -> x.right(1));
        same512th("change(2)", x -> x.feed(Check.number(19)), x -> x.change(2));
        same512th("commit(2)", x -> x.feed(chance(2)), x -> { x.commit(2); return 0; });
        same512th("who has committed", x -> { x.feed(chance(2)); x.commit(2); }, x -> x.about(2));
        same512th("deal(3, 8)", x -> x.feed(Check.number(3).repeat(3)), x -> { x.deal(3, 8); return 0; });
        same512th("N", x -> { x.feed(Check.number(3).repeat(3)); x.deal(3, 8); }, x -> x.about(1));
        same512th("message()", x -> x.feed("abcdef"), Bench::message);
        same512th("feed()", x -> x.feed("abcdef"), x -> x.feed(20, 1, 2, 3, 4, 5));
        same512th("holds()", x -> x.feed(signature()), Bench::holds);
        same512th("show(4, 3)", x -> { }, x -> x.show(4, 3));
        same512th("choose(7)", x -> { }, x -> { x.choose(7); return 0; });
        same512th("other(1)", x -> x.feed("00"), x -> { x.other(1); return 0; });
        sameUpTo512th("output()", x -> x.output(32));
        sameUpTo512th("about()", x -> x.about(3));
        sameUpTo512th("show()", x -> x.show(5, 3));
        sameUpTo512th("feed() of none", x -> x.feed(0, 1, 2, 3, 4, 5));
        sameUpTo512th("message()", Bench::message);
        sameUpTo512th("holds()", Bench::holds);
        sameUpTo512th("gather()", Bench::gather);
        sameUpTo512th("choose()", x -> { x.choose(5); return 0; });
        sameUpTo512th("deal() by nothing", x -> { x.deal(2, 3); return 0; });
        sameUpTo512th("change() by nothing", x -> x.change(1));
        sameUpTo512th("commit() by nothing", x -> { x.commit(1); return 0; });
        sameUpTo512th("share() of none", x -> { x.share(4); return 0; });
        sameUpTo512th("other() by nothing", x -> { x.other(1); return 0; });
        sameUpTo512th("right() of one who gave none", x -> x.right(1));
    }

    /** The same call over and over answers the same up to the 512th. */
    private static void sameUpTo512th(String what, Function<Bench, Object> call) {
        Bench x = chosen();
        String want = Check.answer(() -> call.apply(x));
        while (x.calls() < Bench.MOST_CALLS) {
            Check.due(what, Check.answer(() -> call.apply(x)), want);
        }
    }

    private static String signature() {
        Bench x = chosen();
        x.share(1);
        x.share(3);
        x.gather();
        return x.output();
    }

    /** The last call answers the same as the 512th of its object as it does without calls to fill in. */
    private static void same512th(String what, Consumer<Bench> before, Function<Bench, Object> last) {
        Bench brief = chosen();
        int start = brief.calls();
        before.accept(brief);
        int more = brief.calls() - start + 1;
        Bench full = chosen();
        for (int turn = 0; full.calls() < Bench.MOST_CALLS - more; turn++) {
            fill(full, turn % 16);
        }
        before.accept(full);
        String want = Check.answer(() -> last.apply(brief));
        Check.due(what, Check.answer(() -> last.apply(full)), want);
        Check.due(what + " was the last call", full.calls(), Bench.MOST_CALLS);
    }

    /** A call that leaves all but the output as it is. */
    private static void fill(Bench x, int kind) {
        switch (kind) {
            case 0: x.choose(5); break;
            case 1: x.gather(); break;
            case 2: x.holds(); break;
            case 3: x.show(8, 0); break;
            case 4: x.feed(0, 1, 2, 3, 4, 5); break;
            case 5: x.feed(21, 1, 2, 3, 4, 5); break;
            case 6: Check.answer(() -> { x.deal(2, 3); return 0; }); break;
            case 7: Check.answer(() -> x.change(1)); break;
            case 8: Check.answer(() -> { x.commit(1); return 0; }); break;
            case 9: Check.answer(() -> { x.share(2); return 0; }); break;
            case 10: Check.answer(() -> { x.other(1); return 0; }); break;
            case 11: Check.answer(() -> x.right(1)); break;
            case 12: x.output(7); break;
            case 13: x.about(3); break;
            case 14: Check.answer(() -> { x.choose(7); return 0; }); break;
            default: x.show(7, 3); break;
        }
    }

    private static void scalarsAre0ToQLess1() {
        Check.sentence("Terms", "A SCALAR is 0 .. q - 1");
        Bench x = dealt(3, 5, 7);
        for (String scalar : new String[] {Check.number(0), Check.number(1), BELOW_Q, "7f" + "ff".repeat(31),
            "80" + "00".repeat(31), hex(Reference.Q.subtract(TWO)), hex(Reference.Q.subtract(ONE.shiftLeft(32))),
            hex(Reference.Q.subtract(ONE.shiftLeft(224)))}) {
            x.feed(scalar);
            Check.due(scalar, x.change(2), false);
            Check.due("it is the secret", x.shown(2, 2), scalar);
        }
        for (BigInteger none : new BigInteger[] {Reference.Q, Reference.Q.add(ONE), Reference.Q.add(ONE.shiftLeft(32)),
            Reference.Q.add(ONE.shiftLeft(128)), ONE.shiftLeft(256).subtract(ONE)}) {
            refusedWithTape(x, hex(none), hex(none), () -> x.change(2), ARGUMENT);
        }
    }

    private static void scalarsAreReckonedModuloQ() {
        Check.sentence("Terms", "reckoned modulo q");
        Bench x = new Bench();
        x.feed(BELOW_Q + Check.number(2));
        x.deal(2, 8);
        Check.due("q - 1 + 2", x.shown(2, 1), Check.number(1));
        Check.due("its key is G", x.shown(1, 1), hexOfPoint(ONE));
        x.feed(BELOW_Q + BELOW_Q);
        x.deal(2, 8);
        Check.due("-1 - 8", x.shown(2, 8), hex(Reference.Q.subtract(BigInteger.valueOf(9))));
        Check.due("its key", x.shown(1, 8), hexOfPoint(Reference.Q.subtract(BigInteger.valueOf(9))));
        commit(x, 1, 2);
        x.choose(3);
        Check.due("weight 2 / (2 - 1)", x.shown(7, 1), Check.number(2));
        Check.due("weight 1 / (1 - 2)", x.shown(7, 2), BELOW_Q);
        BigInteger half = TWO.modInverse(Reference.Q);
        x.feed(hex(half) + hex(half));
        x.deal(2, 2);
        Check.due("1 / 2 + 1 / 2", x.shown(2, 1), Check.number(1));
        Check.due("1 / 2 + 1", x.shown(2, 2), hex(half.add(ONE)));
    }

    private static void sharesAreSummedModuloQ() {
        Check.sentence("Terms", "reckoned modulo q");
        BigInteger z = number(signature().substring(66));
        BigInteger[][] pairs = {{BigInteger.ZERO, z}, {z, BigInteger.ZERO},
            {Reference.Q.subtract(ONE), z.add(ONE).mod(Reference.Q)},
            {z.subtract(ONE).mod(Reference.Q), ONE}, {z.add(TWO).mod(Reference.Q), Reference.Q.subtract(TWO)}};
        for (BigInteger[] pair : pairs) {
            Bench x = chosen();
            x.feed(hex(pair[0]));
            x.other(1);
            x.feed(hex(pair[1]));
            x.other(3);
            Check.due("the shares " + pair[0] + " and " + pair[1], x.gather(), 0);
            Check.due("their sum", x.output(), signature());
        }
    }

    /** 1's share is right, and one more or less or its negative is not. */
    private static void onlyTheShareIsRight(String what, Aimed aimed) {
        Bench shared = aimed.x.twin();
        shared.share(1);
        BigInteger share = number(shared.output());
        Check.due(what + ": right", shared.right(1), true);
        shared.share(3);
        Check.due(what + ": gathered", shared.gather(), 0);
        BigInteger[] others = {share.add(ONE), share.subtract(ONE), share.negate(), share.add(Aimed.hiding()),
            share.subtract(Aimed.hiding())};
        for (BigInteger other : others) {
            if (!other.mod(Reference.Q).equals(share)) {
                aimed.x.feed(hex(other.mod(Reference.Q)));
                aimed.x.other(1);
                Check.due(what + ": another share", aimed.x.right(1), false);
                aimed.x.choose(5);
            }
        }
    }

    private static void sumsWithZero() {
        Check.sentence("Terms", "The sum of P and ZERO is P; of (x, y) and (x, p - y) ZERO");
        BigInteger all = Aimed.hiding().add(Aimed.bound());
        onlyTheShareIsRight("all three parts make ZERO", Aimed.atKeyPart(all.negate()));
        onlyTheShareIsRight("binding and key make ZERO", Aimed.atKeyPart(Aimed.bound().negate()));
        onlyTheShareIsRight("hiding and key make ZERO", Aimed.atKeyPart(Aimed.hiding().negate()));
        onlyTheShareIsRight("the key is the binding point's opposite", Aimed.atSecret(Aimed.binding().negate()));
        onlyTheShareIsRight("the key is the hiding point's opposite", Aimed.atSecret(Aimed.hiding().negate()));
        Bench zero = Aimed.atKeyPart(all.negate()).x;
        zero.share(1);
        Check.due("the share of ZERO", zero.output(), Check.number(0));
    }

    private static void sumsOfEqualPoints() {
        Check.sentence("Terms", "of (x, y) and (u, v) otherwise: with m = (v - y) / (u - x), or 3 * x * x / (2 * y) "
            + "if they are the same");
        onlyTheShareIsRight("key part and hiding", Aimed.atKeyPart(Aimed.hiding()));
        onlyTheShareIsRight("key part and binding part", Aimed.atKeyPart(Aimed.bound()));
        onlyTheShareIsRight("key part and both", Aimed.atKeyPart(Aimed.hiding().add(Aimed.bound())));
        onlyTheShareIsRight("key and binding and key, then hiding",
            Aimed.atKeyPart(Aimed.hiding().subtract(Aimed.bound())));
        onlyTheShareIsRight("hiding and key, then binding", Aimed.atKeyPart(Aimed.bound().subtract(Aimed.hiding())));
        onlyTheShareIsRight("the key is the hiding point", Aimed.atSecret(Aimed.hiding()));
        onlyTheShareIsRight("the key is the binding point", Aimed.atSecret(Aimed.binding()));
    }

    private static void sumsOfCoefficientPoints() {
        Check.sentence("Terms", "A secret FITS if secret * G is the sum of i^k * (ak * G)");
        BigInteger three = BigInteger.valueOf(3);
        BigInteger[][] dealers = {{ONE, ONE, ONE}, {ONE, ONE.negate(), three}, {three, ONE, ONE.negate()},
            {TWO, ONE.negate(), three}, {three, ONE.negate(), ONE}, {ONE.negate(), ONE.negate(), ONE.negate()}};
        for (BigInteger[] a : dealers) {
            Bench x = new Bench();
            x.feed(hex(a[0].mod(Reference.Q)) + hex(a[1].mod(Reference.Q)) + hex(a[2].mod(Reference.Q)));
            x.deal(3, 3);
            for (int i = 1; i <= 3; i++) {
                BigInteger at = BigInteger.valueOf(i);
                BigInteger secret = a[0].add(a[1].multiply(at)).add(a[2].multiply(at).multiply(at)).mod(Reference.Q);
                BigInteger[] others = {secret.add(ONE), secret.negate(), BigInteger.ZERO, a[0], secret};
                for (BigInteger other : others) {
                    BigInteger scalar = other.mod(Reference.Q);
                    x.feed(hex(scalar));
                    Check.due(i + " has " + scalar, x.change(i), scalar.equals(secret));
                }
            }
        }
    }

    /** Two with the same secret and the same bytes, and hiding the same as binding. */
    private static void equalCommitments() {
        Check.sentence("Terms", "R is the sum over the set of hiding point + binding factor * binding point");
        String half = chance(1).substring(64);
        for (String bytes : new String[] {chance(1), half + half}) {
            Bench x = dealt(3, 5, 7);
            for (int i = 1; i <= 3; i++) {
                x.feed(Check.number(101));
                x.change(i);
                x.feed(bytes);
                x.commit(i);
                x.feed(Check.number(5 + 7 * i));
                x.change(i);
            }
            Check.due("equal commitments", x.shown(4, 1), x.shown(4, 3));
            x.choose(7);
            String r = x.output();
            BigInteger[] sum = null;
            for (int i = 1; i <= 3; i++) {
                BigInteger[] hiding = Reference.point(Check.bytes(x.shown(4, i).substring(0, 66)));
                BigInteger[] binding = Reference.point(Check.bytes(x.shown(4, i).substring(66)));
                BigInteger[] bound = Reference.times(number(x.shown(5, i)), binding);
                sum = Reference.sum(sum, Reference.sum(hiding, bound));
            }
            Check.due("R of equal commitments", r, hex(Reference.bytes(sum)));
            for (int i = 1; i <= 3; i++) {
                x.share(i);
                Check.due("its share is right", x.right(i), true);
            }
            Check.due("gathered", x.gather(), 0);
        }
    }

    private static void evenAndOddY() {
        Check.sentence("Terms", "2 if y is even, 3 if it is odd, then x, 32 bytes, the highest first");
        int[] heads = new int[4];
        for (long a0 = 1; a0 <= 12; a0++) {
            Bench x = dealt(2, a0, 1);
            String key = x.shown(0, 0);
            heads[Integer.parseInt(key.substring(0, 2), 16)]++;
            Check.due("group key of " + a0, key, hexOfPoint(BigInteger.valueOf(a0)));
            x.feed(hex(Reference.Q.subtract(BigInteger.valueOf(a0))) + Check.number(100));
            x.deal(2, 2);
            Check.due("its opposite", x.shown(0, 0), (key.startsWith("02") ? "03" : "02") + key.substring(2));
        }
        Check.due("both kinds were met", heads[2] > 0 && heads[3] > 0, true);
    }

    private static void participantsAre1ToN() {
        Check.sentence("Terms", "PARTICIPANTS are 1 .. N");
        for (int n = 2; n <= 8; n++) {
            Bench x = dealt(n, 5, 7);
            for (int i : new int[] {1, n}) {
                x.feed(Check.number(5 + 7 * i));
                Check.due("participant " + i + " of " + n, x.change(i), true);
            }
            for (int i : new int[] {0, n + 1, -1, 9, 32 + n, 256 + n}) {
                x.feed(Check.number(5 + 7 * i < 0 ? 5 : 5 + 7 * i));
                Check.throwsDue("participant " + i + " of " + n, () -> x.change(i), INDEX);
                Check.due("key of " + i + " of " + n, x.show(1, i), 0);
            }
        }
    }

    private static void anyTAreEnough() {
        Check.sentence("Terms", "any T of whom are enough");
        for (int set = 1; set < 256; set++) {
            if (Integer.bitCount(set) == 2) {
                signs(dealt(8, 5, 7), set);
            }
            if (Integer.bitCount(set) >= 3 && set < 32) {
                signs(dealt(5, 9, 8, 7), set);
            }
            if (Integer.bitCount(set) >= 7) {
                signs(dealt(8, 1, 2, 3, 4, 5, 6, 7), set);
            }
        }
        signs(dealt(8, 1, 2, 3, 4, 5, 6, 7, 8), 255);
    }

    /** The set makes a signature that holds on an object that knows the group key and the message alone. */
    private static void signs(Bench x, int set) {
        for (int i = 1; i <= 8; i++) {
            if ((set >> (i - 1) & 1) == 1) {
                commit(x, i);
            }
        }
        String key = x.shown(0, 0);
        x.choose(set);
        for (int i = 1; i <= 8; i++) {
            if ((set >> (i - 1) & 1) == 1) {
                x.share(i);
            }
        }
        Check.due("the set " + set, x.gather(), 0);
        String signature = x.output();
        BigInteger[] r = Reference.point(Check.bytes(signature.substring(0, 66)));
        BigInteger c = Reference.expand(Check.bytes(signature.substring(0, 66) + key), "chal");
        BigInteger[] sum = Reference.sum(r, Reference.times(c, Reference.point(Check.bytes(key))));
        Check.due("the signature of " + set, hexOfPoint(number(signature.substring(66))), hex(Reference.bytes(sum)));
        x.feed(signature);
        Check.due("it holds", x.holds(), true);
    }

    private static void tAndNAsTold() {
        Check.sentence("Terms", "N at most 8, any T of whom are enough, 2 <= T <= N");
        for (int t = -1; t <= 9; t++) {
            for (int n = -1; n <= 10; n++) {
                int wantedT = t;
                int wantedN = n;
                Bench x = new Bench();
                x.feed(Check.number(3).repeat(Math.max(0, t)));
                boolean told = 2 <= t && t <= n && n <= 8;
                Check.due(t + " of " + n, Check.answer(() -> { x.deal(wantedT, wantedN); return "dealt"; }),
                    told ? "dealt" : "IllegalArgumentException");
                Check.due("T", x.about(0), told ? t : 0);
                Check.due("N", x.about(1), told ? n : 0);
            }
        }
    }

    private static void noCoefficientIs0() {
        Check.sentence("Terms", "A DEALER has T scalars a0 .. a(T-1), none of them 0");
        for (int t = 2; t <= 8; t++) {
            Bench x = dealt(8, 5, 7);
            for (int k = 0; k < t; k++) {
                int size = t;
                String some = Check.number(4).repeat(k) + Check.number(0) + Check.number(4).repeat(t - 1 - k);
                refusedWithTape(x, some, "a" + k + " of " + t, () -> { x.deal(size, 8); return 0; }, ARGUMENT);
            }
            x.feed(Check.number(1).repeat(t));
            x.deal(t, 8);
            Check.due("all are 1", x.shown(2, 1), Check.number(t));
        }
    }

    private static void messageUpTo100Bytes() {
        Check.sentence("Terms", "SIGNING, of a MESSAGE (up to 100 bytes)");
        for (int length : new int[] {0, 1, 99, 100}) {
            Bench x = dealt(3, 5, 7);
            x.feed("3c".repeat(length));
            x.message();
            commit(x, 2, 3);
            x.choose(6);
            byte[] signed = Check.bytes(x.output() + x.shown(0, 0) + "3c".repeat(length));
            Check.due("challenge for " + length, x.shown(6, 0), hex(Reference.expand(signed, "chal")));
            x.share(2);
            x.share(3);
            Check.due("gathered for " + length, x.gather(), 0);
            String signature = x.output();
            for (int other : new int[] {length, Math.max(0, length - 1), Math.min(100, length + 1)}) {
                x.feed("3c".repeat(other));
                x.message();
                x.feed(signature);
                Check.due("signed " + length + " bytes, now " + other, x.holds(), other == length);
            }
        }
    }

    private static void setOfCommittedAtLeastT() {
        Check.sentence("Terms", "by a SET of participants who all have committed, at least T");
        Bench x = dealt(5, 5, 7, 9);
        commit(x, 1, 2, 4, 5);
        for (int set = 0; set < 32; set++) {
            int asked = set;
            boolean fine = (set & 4) == 0 && Integer.bitCount(set) >= 3;
            Check.due("the set " + set, Check.answer(() -> { x.choose(asked); return "chosen"; }),
                fine ? "chosen" : "IllegalArgumentException");
        }
    }

    private static boolean holds(Bench x, String tape) {
        x.feed(tape);
        return x.holds();
    }

    private static Bench signed() {
        Bench x = dealt(3, 5, 7);
        x.feed("74657374");
        x.message();
        return x;
    }

    private static void holdsIfTheFirstIsAPoint() {
        Check.sentence("Terms", "It HOLDS for a message and a key if the first is a point");
        String signature = signature();
        String x32 = signature.substring(2, 66);
        String z = signature.substring(66);
        Bench x = signed();
        Check.due("as gathered", holds(x, signature), true);
        String other = signature.startsWith("02") ? "03" : "02";
        Check.due("the opposite point", holds(x, other + x32 + z), false);
        for (int head : new int[] {0, 1, 4, 5, 6, 7, 18, 19, 34, 66, 130, 131, 254, 255}) {
            Check.due("head " + head, holds(x, String.format("%02x", head) + x32 + z), false);
        }
        Bench y = signed();
        for (int turn = 0; turn < 12; turn++) {
            BigInteger none = BigInteger.valueOf(turn);
            for (BigInteger at : new BigInteger[] {none, Reference.P.add(none), Reference.P.subtract(ONE).subtract(none)}) {
                Check.due("x " + at, holds(y, "02" + hex(at) + z), false);
            }
        }
        Check.due("x 2^256 - 1", holds(y, "03" + MOST + z), false);
        Check.due("it still holds", holds(y, signature), true);
    }

    private static void holdsIfTheSecondIsBelowQ() {
        Check.sentence("Terms", "the second below q, and, with c = H2(R, key, message), z * G is R + c * key");
        String signature = signature();
        String r = signature.substring(0, 66);
        BigInteger z = number(signature.substring(66));
        Bench x = signed();
        for (BigInteger other : new BigInteger[] {BigInteger.ZERO, ONE, z.subtract(ONE), z.add(ONE), Reference.Q.subtract(z),
            Reference.Q.subtract(ONE), Reference.Q, Reference.Q.add(ONE), ONE.shiftLeft(256).subtract(ONE)}) {
            Check.due("z " + other, holds(x, r + hex(other)), false);
        }
        Check.due("as gathered", holds(x, r + hex(z)), true);
    }

    private static void exceptionsInOrder() {
        Check.sentence("Terms", "Exceptions, in this order: IllegalStateException (as told), "
            + "IndexOutOfBoundsException (no such participant), IllegalArgumentException (as told)");
        Bench none = new Bench();
        Bench noSet = dealt(3, 5, 7);
        Bench set = chosen();
        set.share(1);
        for (int i : new int[] {0, 4, -1, Integer.MAX_VALUE, Integer.MIN_VALUE}) {
            Check.throwsDue("change: not dealt, none such, no scalar", () -> none.change(i), STATE);
            Check.throwsDue("commit: not dealt, none such, no 64 bytes", () -> { none.commit(i); return 0; }, STATE);
            for (Bench x : new Bench[] {none, noSet}) {
                Check.throwsDue("share: no set, none such", () -> { x.share(i); return 0; }, STATE);
                Check.throwsDue("other: no set, none such, no 32 bytes", () -> { x.other(i); return 0; }, STATE);
                Check.throwsDue("right: no set, none such", () -> x.right(i), STATE);
            }
            Check.throwsDue("change: none such, no scalar", () -> noSet.change(i), INDEX);
            Check.throwsDue("commit: none such, no 64 bytes", () -> { noSet.commit(i); return 0; }, INDEX);
            Check.throwsDue("share: none such", () -> { set.share(i); return 0; }, INDEX);
            Check.throwsDue("other: none such, no 32 bytes", () -> { set.other(i); return 0; }, INDEX);
            Check.throwsDue("right: none such", () -> set.right(i), INDEX);
        }
        Check.throwsDue("change: not dealt, no scalar", () -> none.change(1), STATE);
        Check.throwsDue("commit: not dealt, no 64 bytes", () -> { none.commit(1); return 0; }, STATE);
        Check.throwsDue("choose: not dealt, bits of none", () -> { none.choose(-1); return 0; }, STATE);
        Check.throwsDue("choose: not dealt, too few", () -> { none.choose(0); return 0; }, STATE);
        Check.throwsDue("share: no set", () -> { noSet.share(1); return 0; }, STATE);
        Check.throwsDue("other: no set, no 32 bytes", () -> { noSet.other(1); return 0; }, STATE);
        Check.throwsDue("right: no set, none given", () -> noSet.right(1), STATE);
        Check.throwsDue("change: no scalar", () -> set.change(1), ARGUMENT);
        Check.throwsDue("commit: no 64 bytes", () -> { set.commit(1); return 0; }, ARGUMENT);
        Check.throwsDue("choose: too few", () -> { set.choose(0); return 0; }, ARGUMENT);
        Check.throwsDue("share: given", () -> { set.share(1); return 0; }, ARGUMENT);
        Check.throwsDue("other: no 32 bytes", () -> { set.other(3); return 0; }, ARGUMENT);
        Check.throwsDue("right: none given", () -> set.right(3), ARGUMENT);
    }

    /** Objects in states of every kind; a refused call must leave each as it was. */
    private static List<Bench> states() {
        List<Bench> all = new ArrayList<>();
        all.add(new Bench());
        Bench committed = dealt(3, 5, 7);
        commit(committed, 1, 2);
        all.add(committed);
        all.add(chosen());
        Bench given = chosen();
        given.share(1);
        all.add(given);
        Bench other = chosen();
        other.feed(MOST);
        other.other(3);
        all.add(other);
        Bench gathered = chosen();
        gathered.share(3);
        gathered.share(1);
        gathered.gather();
        all.add(gathered);
        Bench changed = chosen();
        changed.feed(Check.number(0));
        changed.change(1);
        commit(changed, 2);
        changed.choose(3);
        all.add(changed);
        return all;
    }

    private static void whatThrowsChangesNothing() {
        Check.sentence("Terms", "What throws changes nothing but the tape");
        for (Bench x : states()) {
            boolean anyDealt = x.twin().about(1) != 0;
            boolean anySet = x.twin().about(3) != 0;
            Class<? extends RuntimeException> noParticipant = anyDealt ? INDEX : STATE;
            Class<? extends RuntimeException> wrongIfDealt = anyDealt ? ARGUMENT : STATE;
            Class<? extends RuntimeException> noneInSet = anySet ? INDEX : STATE;
            refusedWithTape(x, Check.number(9), "deal by one scalar", () -> { x.deal(2, 3); return 0; }, ARGUMENT);
            refusedWithTape(x, Check.number(9) + Q, "deal by q", () -> { x.deal(2, 3); return 0; }, ARGUMENT);
            refusedWithTape(x, hex(Reference.Q.subtract(BigInteger.valueOf(3))) + Check.number(1),
                "deal 0 to the third", () -> { x.deal(2, 3); return 0; }, ARGUMENT);
            refusedWithTape(x, Check.number(9).repeat(2), "deal to nine", () -> { x.deal(2, 9); return 0; }, ARGUMENT);
            refusedWithTape(x, Q, "change to q", () -> x.change(1), wrongIfDealt);
            refusedWithTape(x, Check.number(9), "change of 4", () -> x.change(4), noParticipant);
            refusedWithTape(x, chance(1) + "00", "commit by 65", () -> { x.commit(1); return 0; }, wrongIfDealt);
            refusedWithTape(x, chance(1), "commit of 0", () -> { x.commit(0); return 0; }, noParticipant);
            refusedWithTape(x, Check.number(9), "other of 4", () -> { x.other(4); return 0; }, noneInSet);
            refusedWithTape(x, "", "other by nothing", () -> { x.other(1); return 0; }, anySet ? ARGUMENT : STATE);
            x.feed("1234");
            refused(x, "choose none", () -> { x.choose(0); return 0; }, wrongIfDealt);
            refused(x, "choose 4", () -> { x.choose(15); return 0; }, wrongIfDealt);
            refused(x, "share of 0", () -> { x.share(0); return 0; }, noneInSet);
            refused(x, "right of 4", () -> x.right(4), noneInSet);
            if (!anySet) {
                refused(x, "gather", x::gather, STATE);
            }
            if (!anyDealt) {
                refusedWithTape(x, signature(), "holds", x::holds, STATE);
            }
            x.feed("00".repeat(101));
            refusedMessage(x);
        }
    }

    private static void refusedMessage(Bench x) {
        String before = x.state();
        Check.throwsDue("message of more than 100", x::message, ARGUMENT);
        Check.due("message of more than 100 changes nothing", x.state(), before);
    }
}
