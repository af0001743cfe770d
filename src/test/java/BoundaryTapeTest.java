/** The boundary cases of promises 1 to 3, sentence by sentence: a new object, the tape, the message. */
final class BoundaryTapeTest extends Runs {
    private static final int[] OTHER_COUNTS = {-1, -2, -20, 21, 22, 24, 256, 300, 301, 1 << 16, Integer.MAX_VALUE,
        Integer.MAX_VALUE - 300, Integer.MIN_VALUE, Integer.MIN_VALUE + 20};

    private BoundaryTapeTest() {
    }

    public static void main(String[] args) {
        nothingWasDealt();
        allIsEmpty();
        theFirstN();
        theHighestFirst();
        noneForAnotherN();
        noneBeyond300();
        theTapeBecomesTheMessage();
        theMessageMayBeEmpty();
        commitmentsStayTheSetDoesNot();
        moreThan100Bytes();
        Check.end();
    }

    private static void nothingWasDealt() {
        Check.sentence("Promise 1", "Nothing was dealt");
        Bench x = new Bench();
        Check.due("T, N, committed, set, given", x.abouts(), "[0, 0, 0, 0, 0, 0, 0, 0]");
        for (int what = 0; what <= 7; what++) {
            for (int i = 0; i <= 9; i++) {
                Check.due("show(" + what + ", " + i + ")", x.show(what, i), 0);
            }
        }
        for (int i : new int[] {0, 1, 8, 9}) {
            refusedWithTape(x, Check.number(5), "change", () -> x.change(i), STATE);
            refusedWithTape(x, chance(1), "commit", () -> { x.commit(i); return 0; }, STATE);
            refusedWithTape(x, Check.number(5), "other", () -> { x.other(i); return 0; }, STATE);
            refused(x, "share", () -> { x.share(i); return 0; }, STATE);
            refused(x, "right", () -> x.right(i), STATE);
            refused(x, "choose", () -> { x.choose(i); return 0; }, STATE);
        }
        refused(x, "gather", x::gather, STATE);
        refusedWithTape(x, "02" + chance(1), "holds", x::holds, STATE);
        refusedWithTape(x, "", "holds without a tape", x::holds, STATE);
    }

    private static void allIsEmpty() {
        Check.sentence("Promise 1", "the tape, the message and the output are empty");
        Bench x = new Bench();
        Check.due("bytes of the tape", x.about(5), 0);
        Check.due("bytes of the message", x.about(6), 0);
        Check.due("bytes of the output", x.about(7), 0);
        Check.due("output(0)", x.output(0), -1);
        Check.due("SHA of no bytes", x.shown(8, 0), "e3b0c44298fc1c149afbf4c8996fb92427ae41e4649b934ca495991b7852b855");
        Check.due("the first byte is the tape's first", x.feed(1, 0x61000000, 0, 0, 0, 0), 1);
        Check.due("message()", x.message(), 1);
        Check.due("SHA of it", x.shown(8, 0), hex(Reference.sha(Reference.text("a"))));
    }

    private static void theFirstN() {
        Check.sentence("Promise 2", "The first n (0 .. 20) of the bytes of a, b, c, d, e, four each");
        String all = "00017f80fffe0102a0b0c0d000000000ff00ff80";
        int[] w = Check.words(Check.bytes(all), 0, 20);
        for (int n = 0; n <= 20; n++) {
            Bench x = new Bench();
            Check.due("feed " + n, x.feed(n, w[0], w[1], w[2], w[3], w[4]), n);
            Check.due("bytes of the tape", x.about(5), n);
            Check.due("and none again", x.feed(0, w[0], w[1], w[2], w[3], w[4]), n);
            Check.due("as many again", x.feed(n, w[4], w[3], w[2], w[1], w[0]), 2 * n);
            String back = "ff00ff8000000000a0b0c0d0fffe010200017f80";
            x.message();
            Check.due("the first " + n, x.shown(8, 0),
                hex(Reference.sha(Check.bytes(all.substring(0, 2 * n) + back.substring(0, 2 * n)))));
        }
    }

    private static void theHighestFirst() {
        Check.sentence("Promise 2", "the highest first, come to the TAPE: how long it is");
        Bench x = new Bench();
        x.feed(20, 0, 0, 0, 0, 0);
        x.feed(20, 0, 0, 0x80f10203, 0, 0);
        x.feed(20, 0, 0, 0, 0, 0);
        x.feed(4, 0x00000102, 0, 0, 0, 0);
        x.deal(2, 2);
        Check.due("a0 and a1", x.shown(2, 1), Check.number(0x80f10203L + 0x102));
    }

    private static void noneForAnotherN() {
        Check.sentence("Promise 2", "NONE, and none comes, for another n");
        for (int length : new int[] {0, 1, 20, 299, 300}) {
            Bench x = new Bench();
            x.feed("b7".repeat(length));
            String tape = x.tape();
            for (int n : OTHER_COUNTS) {
                Check.due("feed " + n + " to " + length, x.feed(n, 1, 2, 3, 4, 5), -1);
                Check.due("none came", x.about(5), length);
            }
            Check.due("the tape is the same", x.tape(), tape);
        }
    }

    private static void noneBeyond300() {
        Check.sentence("Promise 2", "NONE, and none comes, [..] if it would have more than 300");
        for (int n = 1; n <= 20; n++) {
            Bench x = new Bench();
            x.feed("b7".repeat(300 - n));
            Check.due("up to 300 by " + n, x.feed(n, 1, 2, 3, 4, 5), 300);
            Check.due("300 and " + n, x.feed(n, 1, 2, 3, 4, 5), -1);
            Check.due("300 and none", x.feed(0, 1, 2, 3, 4, 5), 300);
            Bench y = new Bench();
            y.feed("b7".repeat(301 - n));
            Check.due("up to 301 by " + n, y.feed(n, 1, 2, 3, 4, 5), -1);
            Check.due("none came", y.about(5), 301 - n);
            Check.due("up to 300 by one less", y.feed(n - 1, 1, 2, 3, 4, 5), 300);
        }
        fullTapeIsTaken();
    }

    /** A full tape is emptied like any other, and can be filled again. */
    private static void fullTapeIsTaken() {
        Bench x = dealt(2, 5, 7);
        for (int turn = 0; turn < 4; turn++) {
            x.feed("b7".repeat(300));
            Check.due("full", x.about(5), 300);
            Check.due("300 bytes do not hold", x.holds(), false);
            Check.due("the tape is empty", x.about(5), 0);
        }
        refusedWithTape(x, "b7".repeat(300), "deal by 300", () -> { x.deal(2, 2); return 0; }, ARGUMENT);
        x.feed(Check.number(4).repeat(8));
        x.deal(8, 8);
        Check.due("the last of 256 bytes", x.shown(3, 7), x.shown(0, 0));
    }

    private static void theTapeBecomesTheMessage() {
        Check.sentence("Promise 3", "The tape, which is empty then, becomes the message: its length");
        Bench x = new Bench();
        for (int length : new int[] {100, 1, 99, 0, 64}) {
            String row = "c8".repeat(length);
            x.feed(row);
            Check.due("message()", x.message(), length);
            Check.due("the tape is empty", x.about(5), 0);
            Check.due("bytes of the message", x.about(6), length);
            Check.due("the message's bytes", x.shown(8, 0), hex(Reference.sha(Check.bytes(row))));
        }
        Check.due("the output stays", x.about(7), 32);
    }

    private static void theMessageMayBeEmpty() {
        Check.sentence("Promise 3", "The tape, which is empty then, becomes the message: its length");
        Bench x = chosen();
        Check.due("message() without a tape", x.message(), 0);
        Check.due("no message, no set", x.abouts(), "[2, 3, 5, 0, 0, 0, 0, 33]");
        Check.due("once more", x.message(), 0);
        x.choose(5);
        x.share(1);
        x.share(3);
        Check.due("no bytes can be signed", x.gather(), 0);
    }

    private static void commitmentsStayTheSetDoesNot() {
        Check.sentence("Promise 3", "(All commitments stay; the set is none any more.)");
        Bench x = chosen();
        commit(x, 2);
        x.choose(5);
        x.share(1);
        x.feed(Check.number(4));
        x.other(3);
        String commitments = x.shown(4, 2) + x.shown(4, 3);
        x.feed("61");
        x.message();
        Check.due("about", x.abouts(), "[2, 3, 6, 0, 0, 0, 1, 66]");
        Check.due("commitments", x.shown(4, 2) + x.shown(4, 3), commitments);
        Check.due("1's stays gone", x.show(4, 1), 0);
        for (int i = 1; i <= 3; i++) {
            int who = i;
            Check.due("binding factor", x.show(5, i), 0);
            Check.due("challenge", x.show(6, i), 0);
            Check.due("weight", x.show(7, i), 0);
            refused(x, "share", () -> { x.share(who); return 0; }, STATE);
            refused(x, "right", () -> x.right(who), STATE);
            refusedWithTape(x, Check.number(4), "other", () -> { x.other(who); return 0; }, STATE);
        }
        refused(x, "gather", x::gather, STATE);
        x.choose(6);
        shares(x, 2, shareOf(x, 2), "2's nonces stayed");
        shares(x, 3, shareOf(x, 3), "3's nonces stayed");
        Check.due("they sign", x.gather(), 0);
    }

    private static void moreThan100Bytes() {
        Check.sentence("Promise 3", "IllegalArgumentException if it has more than 100 bytes");
        for (int length : new int[] {101, 102, 128, 256, 300}) {
            Bench x = chosen();
            x.share(3);
            x.feed("c8".repeat(length));
            refused(x, "message of " + length, x::message, ARGUMENT);
            Check.due("the message stays", x.about(6), 4);
            Check.due("the set stays", x.about(3), 5);
            Check.due("the tape stays", x.about(5), length);
            x.holds();
            x.feed("c8".repeat(100));
            Check.due("message of 100", x.message(), 100);
        }
    }
}
