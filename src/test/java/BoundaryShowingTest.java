import java.math.BigInteger;

/** The boundary cases of promises 13 to 15, sentence by sentence: what is shown, the output, what about() tells. */
final class BoundaryShowingTest extends Runs {
    private static final int[] FAR = {-1, -2, 9, 10, 33, 64, 257, 1 << 16, Integer.MAX_VALUE, Integer.MIN_VALUE};

    private BoundaryShowingTest() {
    }

    public static void main(String[] args) {
        howManyBytes();
        whateverIIs();
        theOutputStaysForAnotherWhat();
        noSuchParticipantToShow();
        noSuchCoefficient();
        noSuchCommitment();
        notInASet();
        noChallenge();
        nothingDealtToShow();
        byteKOfTheLatest();
        noneIfThereIsNone();
        aboutNoneSuch();
        aboutAnotherWhat();
        Check.end();
    }

    private static void howManyBytes() {
        Check.sentence("Promise 13", "how many bytes");
        int[] sizes = {33, 33, 32, 33, 66, 32, 32, 32, 32};
        Bench x = chosen();
        x.feed("1234");
        for (int what = 0; what <= 8; what++) {
            Check.due("show(" + what + ", 1)", x.show(what, 1), sizes[what]);
            Check.due("bytes of the output", x.about(7), sizes[what]);
            Check.due("the last", x.output(sizes[what] - 1) >= 0, true);
            Check.due("none behind it", x.output(sizes[what]), -1);
            Check.due("all else stays", x.abouts(), "[2, 3, 5, 5, 0, 2, 4, " + sizes[what] + "]");
        }
    }

    private static void whateverIIs() {
        Check.sentence("Promise 13", "(32; 0 and 6 and 8 whatever i is)");
        Bench x = chosen();
        String[] due = {x.shown(0, 1), x.shown(6, 1), x.shown(8, 1)};
        Check.due("the group key", due[0], hexOfPoint(BigInteger.valueOf(5)));
        Check.due("SHA of the message", due[2], hex(Reference.sha(Reference.text("test"))));
        int[] whats = {0, 6, 8};
        for (int i : new int[] {0, 2, 3, 4, 8, 9, -1, 32, Integer.MAX_VALUE, Integer.MIN_VALUE}) {
            for (int k = 0; k < 3; k++) {
                x.show(2, 1);
                Check.due("show(" + whats[k] + ", " + i + ")", x.shown(whats[k], i), due[k]);
            }
        }
    }

    /** There is none such: 0, and the output stays. */
    private static void none(Bench x, int what, int i) {
        String before = x.output();
        Check.due("show(" + what + ", " + i + ")", x.show(what, i), 0);
        Check.due("the output stays after show(" + what + ", " + i + ")", x.output(), before);
    }

    private static void theOutputStaysForAnotherWhat() {
        Check.sentence("Promise 13", "0, and the output stays, for another what");
        Bench x = chosen();
        for (int what : FAR) {
            for (int i : new int[] {0, 1, 9, -1, Integer.MIN_VALUE}) {
                none(x, what, i);
            }
        }
    }

    private static void noSuchParticipantToShow() {
        Check.sentence("Promise 13", "or where there is none such");
        for (int n = 2; n <= 8; n++) {
            Bench x = dealt(n, 5, 7);
            commit(x, 1, n);
            x.choose(1 | 1 << (n - 1));
            for (int what : new int[] {1, 2, 4, 5, 7}) {
                none(x, what, 0);
                none(x, what, n + 1);
                Check.due("the first", x.show(what, 1) > 0, true);
                Check.due("the last", x.show(what, n) > 0, true);
            }
        }
        Bench x = chosen();
        for (int what : new int[] {1, 2, 4, 5, 7}) {
            for (int i : FAR) {
                none(x, what, i);
            }
        }
    }

    private static void noSuchCoefficient() {
        Check.sentence("Promise 13", "coefficient i's point, i from 0 on (33)");
        for (int t = 2; t <= 8; t++) {
            Bench x = dealt(8, new long[] {2, 3, 4, 5, 6, 7, 8, 9}, t);
            for (int k = 0; k < t; k++) {
                Check.due("coefficient " + k, x.shown(3, k), hexOfPoint(BigInteger.valueOf(k + 2)));
            }
            none(x, 3, t);
            none(x, 3, t + 1);
            none(x, 3, -1);
            none(x, 3, Integer.MAX_VALUE);
            none(x, 3, Integer.MIN_VALUE);
        }
    }

    private static Bench dealt(int n, long[] coefficients, int t) {
        return dealt(n, java.util.Arrays.copyOf(coefficients, t));
    }

    private static void noSuchCommitment() {
        Check.sentence("Promise 13", "or where there is none such");
        Bench x = chosen();
        none(x, 4, 2);
        Check.due("1 has committed", x.show(4, 1), 66);
        x.share(1);
        none(x, 4, 1);
        commit(x, 1);
        Check.due("1 has committed again", x.show(4, 1), 66);
        x.choose(5);
        x.feed(Check.number(5));
        x.other(3);
        Check.due("other() leaves it", x.show(4, 3), 66);
    }

    private static void notInASet() {
        Check.sentence("Promise 13", "(5, 7: i is not in a set");
        Bench x = dealt(8, 5, 7);
        commit(x, 1, 2, 3, 8);
        for (int what : new int[] {5, 7}) {
            for (int i = 0; i <= 9; i++) {
                none(x, what, i);
            }
        }
        x.choose(131);
        for (int i = 0; i <= 9; i++) {
            boolean in = i == 1 || i == 2 || i == 8;
            Check.due("binding factor of " + i, x.show(5, i), in ? 32 : 0);
            Check.due("weight of " + i, x.show(7, i), in ? 32 : 0);
        }
        x.share(1);
        Check.due("1 is still in it", x.show(5, 1) + x.show(7, 1), 64);
        none(x, 5, 3);
        none(x, 7, 3);
        commit(x, 3);
        none(x, 5, 2);
        none(x, 7, 2);
    }

    private static void noChallenge() {
        Check.sentence("Promise 13", "6: there is none)");
        Bench x = dealt(3, 5, 7);
        x.show(8, 0);
        none(x, 6, 0);
        commit(x, 1, 3);
        none(x, 6, 1);
        x.choose(5);
        Check.due("a set", x.show(6, 2), 32);
        x.share(1);
        x.share(3);
        Check.due("all have given", x.show(6, 0), 32);
        x.message();
        none(x, 6, 1);
        commit(x, 1, 3);
        x.choose(5);
        commit(x, 2);
        none(x, 6, 1);
        x.choose(5);
        x.feed(Check.number(5).repeat(2));
        x.deal(2, 3);
        none(x, 6, 1);
    }

    private static void nothingDealtToShow() {
        Check.sentence("Promise 13", "or where there is none such");
        Bench x = new Bench();
        for (int what = 0; what <= 7; what++) {
            for (int i : new int[] {0, 1, 2, 8, 9, -1}) {
                none(x, what, i);
            }
        }
        Check.due("SHA of the message", x.show(8, 1), 32);
        none(x, 0, 0);
        none(x, 3, 0);
    }

    private static void byteKOfTheLatest() {
        Check.sentence("Promise 14", "Byte k of what was output latest");
        Bench x = dealt(3, 5, 7);
        x.feed(BELOW_Q);
        x.change(1);
        x.show(2, 1);
        Check.due("the first", x.output(0), 255);
        Check.due("the last", x.output(31), 0x40);
        Check.due("the highest byte", x.output(15), 254);
        commit(x, 1, 2);
        x.show(4, 2);
        Check.due("66 bytes", x.output(65) >= 0, true);
        x.choose(3);
        Check.due("R", x.output(32) >= 0, true);
        Check.due("nothing of the longer one before", x.output(33), -1);
        x.share(2);
        Check.due("a share", x.output(31) >= 0, true);
        Check.due("nothing of R", x.output(32), -1);
        String before = x.output();
        x.feed("aa");
        x.message();
        x.feed(Check.number(3));
        x.change(3);
        x.feed("bb".repeat(65));
        x.holds();
        x.feed(Check.number(3).repeat(2));
        x.deal(2, 2);
        Check.due("calls that output nothing leave it", x.output(), before);
    }

    private static void noneIfThereIsNone() {
        Check.sentence("Promise 14", "NONE if there is none");
        Bench x = new Bench();
        for (int k : new int[] {0, 1, 31, 32, 65, 66, -1, Integer.MAX_VALUE, Integer.MIN_VALUE}) {
            Check.due("nothing was output: " + k, x.output(k), -1);
        }
        x = chosen();
        int[] sizes = {33, 33, 32, 33, 66, 32, 32, 32, 32};
        for (int what = 0; what <= 8; what++) {
            x.show(what, 1);
            Check.due("the last", x.output(sizes[what] - 1) >= 0, true);
            for (int k : new int[] {sizes[what], sizes[what] + 1, 66, 67, 300, 512, -1, -sizes[what], Integer.MAX_VALUE,
                Integer.MIN_VALUE, Integer.MIN_VALUE + 1}) {
                Check.due("output(" + k + ") of " + sizes[what], x.output(k), -1);
            }
        }
        x.share(1);
        x.share(3);
        x.gather();
        Check.due("the signature's last", x.output(64) >= 0, true);
        Check.due("none behind it", x.output(65), -1);
    }

    private static void aboutNoneSuch() {
        Check.sentence("Promise 15", "0 if there is none such");
        Bench x = new Bench();
        Check.due("nothing at all", x.abouts(), "[0, 0, 0, 0, 0, 0, 0, 0]");
        x.feed("00".repeat(300));
        Check.due("a full tape", x.abouts(), "[0, 0, 0, 0, 0, 300, 0, 0]");
        x = dealt(8, 1, 2, 3, 4, 5, 6, 7, 8);
        Check.due("dealt", x.abouts(), "[8, 8, 0, 0, 0, 0, 0, 0]");
        x.feed("00".repeat(100));
        x.message();
        commit(x, 1, 2, 3, 4, 5, 6, 7, 8);
        Check.due("all have committed", x.abouts(), "[8, 8, 255, 0, 0, 0, 100, 0]");
        x.choose(255);
        Check.due("all are in the set", x.abouts(), "[8, 8, 255, 255, 0, 0, 100, 33]");
        for (int i = 1; i <= 8; i++) {
            x.share(i);
        }
        Check.due("all have given", x.abouts(), "[8, 8, 0, 255, 255, 0, 100, 32]");
        x.message();
        Check.due("no set, no message", x.abouts(), "[8, 8, 0, 0, 0, 0, 0, 32]");
    }

    private static void aboutAnotherWhat() {
        Check.sentence("Promise 15", "0 if there is none such");
        for (Bench x : new Bench[] {new Bench(), chosen()}) {
            for (int what : new int[] {-1, -2, 8, 9, 10, 32, 256, 1 << 16, Integer.MAX_VALUE, Integer.MIN_VALUE}) {
                Check.due("about(" + what + ")", x.about(what), 0);
            }
        }
    }
}
