import java.util.ArrayList;
import java.util.List;
import java.util.function.Function;

/**
 * An object under test that counts its calls, since what one answers after its 512th is free, and that can be made
 * once more by the same calls: what is asked of such a twin does not count here.
 */
final class Bench {
    static final int MOST_CALLS = 512;
    private static final int NONE = ThresholdBench.NONE;

    private final ThresholdBench inside = new ThresholdBench();
    private final List<Function<ThresholdBench, Object>> calls = new ArrayList<>();

    Object call(Function<ThresholdBench, Object> one) {
        if (calls.size() == MOST_CALLS) {
            throw new AssertionError("a test makes more than " + MOST_CALLS + " calls of one object");
        }
        calls.add(one);
        return one.apply(inside);
    }

    int calls() {
        return calls.size();
    }

    Bench twin() {
        Bench twin = new Bench();
        for (Function<ThresholdBench, Object> one : calls) {
            Check.answer(() -> twin.call(one));
        }
        return twin;
    }

    int feed(int n, int a, int b, int c, int d, int e) {
        return (Integer) call(x -> x.feed(n, a, b, c, d, e));
    }

    int message() {
        return (Integer) call(ThresholdBench::message);
    }

    void deal(int t, int n) {
        call(x -> { x.deal(t, n); return 0; });
    }

    boolean change(int i) {
        return (Boolean) call(x -> x.change(i));
    }

    void commit(int i) {
        call(x -> { x.commit(i); return 0; });
    }

    void choose(int set) {
        call(x -> { x.choose(set); return 0; });
    }

    void share(int i) {
        call(x -> { x.share(i); return 0; });
    }

    void other(int i) {
        call(x -> { x.other(i); return 0; });
    }

    boolean right(int i) {
        return (Boolean) call(x -> x.right(i));
    }

    int gather() {
        return (Integer) call(ThresholdBench::gather);
    }

    boolean holds() {
        return (Boolean) call(ThresholdBench::holds);
    }

    int show(int what, int i) {
        return (Integer) call(x -> x.show(what, i));
    }

    int output(int k) {
        return (Integer) call(x -> x.output(k));
    }

    int about(int what) {
        return (Integer) call(x -> x.about(what));
    }

    void feed(String hex) {
        feed(Check.bytes(hex));
    }

    void feed(byte[] row) {
        for (int at = 0; at < row.length; at += 20) {
            int n = Math.min(20, row.length - at);
            int[] words = Check.words(row, at, n);
            feed(n, words[0], words[1], words[2], words[3], words[4]);
        }
    }

    /** What about() tells from 0 to 7. */
    String abouts() {
        Bench twin = twin();
        List<Integer> all = new ArrayList<>();
        for (int what = 0; what < 8; what++) {
            all.add(twin.about(what));
        }
        return all.toString();
    }

    /** All bytes of the output as hex. */
    String output() {
        Bench twin = twin();
        StringBuilder hex = new StringBuilder();
        int length = twin.about(7);
        for (int k = 0; k < length; k++) {
            hex.append(String.format("%02x", twin.output(k)));
        }
        Check.due("no byte behind the output", twin.output(length), NONE);
        return hex.toString();
    }

    /** Calls show() and answers all bytes of the output as hex. */
    String shown(int what, int i) {
        int count = show(what, i);
        String hex = output();
        Check.due("show(" + what + ", " + i + ") counts its output", count, hex.length() / 2);
        return hex;
    }

    /** What the tape holds: its length, and the digest of its bytes as long as they could be a message. */
    String tape() {
        Bench twin = twin();
        int length = twin.about(5);
        return length > 100 || twin.message() != length || twin.show(8, 0) == 0
            ? Integer.toString(length) : length + " bytes " + twin.glimpse();
    }

    /** All that calls can tell but for the tape: what is shown now, and what nonces and shares would lead to. */
    String state() {
        return twin().present() + twin().chosenShares() + twin().nonces();
    }

    private String present() {
        StringBuilder all = new StringBuilder();
        for (int what = 0; what < 8; what++) {
            all.append(what == 5 ? "" : about(what) + " ");
        }
        all.append(glimpse());
        int n = about(1);
        for (int what = 0; what <= 8; what++) {
            boolean once = what == 0 || what == 6 || what == 8;
            for (int i = 0; i <= (once ? 0 : n); i++) {
                all.append(show(what, i) == 0 ? " -" : glimpse());
            }
        }
        return all.toString();
    }

    /** Some bytes of the output, which tell one number or point from any other. */
    private String glimpse() {
        int length = about(7);
        return " " + length + ":" + output(0) + "," + output(17) + "," + output(length - 1);
    }

    private String chosenShares() {
        StringBuilder all = new StringBuilder(" in the set:");
        for (int i = 1; i <= about(1) && about(3) != 0; i++) {
            int who = i;
            all.append(' ').append(Check.answer(() -> right(who)));
            all.append(Check.answer(() -> { share(who); return glimpse(); }));
        }
        return all.append(' ').append(Check.answer(this::gather)).append(glimpse()).toString();
    }

    private String nonces() {
        StringBuilder all = new StringBuilder(" nonces:");
        if (about(1) == 0) {
            return all.toString();
        }
        holds();
        for (int i = 1; i <= about(1); i++) {
            if ((about(2) >> (i - 1) & 1) == 0) {
                feed("5c".repeat(64));
                commit(i);
            }
        }
        choose(about(2));
        for (int i = 1; i <= about(1); i++) {
            share(i);
            all.append(glimpse());
        }
        return all.toString();
    }
}
