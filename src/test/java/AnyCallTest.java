import java.util.ArrayList;
import java.util.Arrays;
import java.util.LinkedHashMap;
import java.util.List;
import java.util.Map;
import java.util.Set;
import java.util.function.Function;

/**
 * LANGUAGE.md's rule 7: "No call may ever throw by itself (only by a throw statement) or fail to end, for any arguments
 * in any state". Every call is made with arguments at every edge, by tapes of many lengths, in states of every kind; it
 * must answer or throw as the reference does, and leave the same behind.
 */
final class AnyCallTest extends Runs {
    private static final int MIN = Integer.MIN_VALUE;
    private static final int MAX = Integer.MAX_VALUE;
    /** To feed a full tape, to make the call and to look at what it left behind. */
    private static final int CALLS_FOR_ONE = 15 + 1 + 14;
    private static final int[] WHO = {MIN, MIN + 1, -32, -1, 0, 1, 2, 3, 4, 7, 8, 9, 31, 32, 33, 65, 257, 1 << 30, MAX};
    private static final int[] SIZES = {MIN, MIN + 2, -1, 0, 1, 2, 3, 8, 9, 32, 1 << 27, (1 << 27) + 2, MAX};
    private static final int[] COUNTS = {MIN, -1, 0, 1, 4, 19, 20, 21, 255, 1 << 30, MAX - 300, MAX};
    private static final int[] SETS = {MIN, MIN | 5, -1, 0, 1, 2, 3, 4, 5, 6, 7, 8, 13, 15, 128, 131, 255, 256, 261, 511,
        1 << 16, 1 << 30, MAX};
    private static final int[] WHATS = {MIN, -1, 0, 1, 2, 3, 4, 5, 6, 7, 8, 9, 10, 32, 256, MAX};

    private static final Set<String> CHANGING = Set.of("message", "deal", "change", "commit", "choose", "share", "other");

    /** A call, to be made of the object and of the reference. */
    private record Step(String name, Function<ThresholdBench, Object> mine, Function<Reference, Object> due) {
    }

    private final String state;
    private final List<Step> way;
    private Bench x;
    private Reference y;
    private boolean inState;

    private AnyCallTest(String state, List<Step> way) {
        this.state = state;
        this.way = way;
        begin();
    }

    public static void main(String[] args) {
        for (Map.Entry<String, List<Step>> one : states().entrySet()) {
            AnyCallTest test = new AnyCallTest(one.getKey(), one.getValue());
            for (String tape : tapes()) {
                test.tryAll(tape, callsThatTakeTheTape(tape.length() == 128 || tape.length() == 512));
            }
            test.tryAll("", callsThatDoNot());
            test.tryAll("1234", callsThatDoNot());
        }
        Check.end();
    }

    private void begin() {
        x = new Bench();
        y = new Reference();
        for (Step step : way) {
            make(step);
        }
        inState = true;
    }

    private String make(Step step) {
        String want = Check.answer(() -> step.due.apply(y));
        Check.due(state + ": " + step.name, Check.answer(() -> x.call(step.mine)), want);
        return want;
    }

    private void tryAll(String tape, List<Step> steps) {
        for (Step step : steps) {
            bringTape(tape);
            String want = make(step);
            look(step);
            // A refused call leaves the state as it was, so that the next one can be made of the same objects.
            inState &= want.endsWith("Exception") || !CHANGING.contains(step.name.substring(0, step.name.indexOf('(')));
        }
    }

    private void bringTape(String tape) {
        boolean there = Arrays.equals(y.tape, Check.bytes(tape));
        if (!inState || !there && y.tape.length != 0 || x.calls() + CALLS_FOR_ONE > Bench.MOST_CALLS) {
            begin();
            there = tape.isEmpty();
        }
        for (Step feed : there ? List.<Step>of() : feed(tape)) {
            make(feed);
        }
    }

    private void look(Step step) {
        for (int what = 0; what < 8; what++) {
            Check.due(state + ": " + step.name + ", then about(" + what + ")", x.about(what), y.about(what));
        }
        for (int k : new int[] {0, 1, 31, 32, y.output.length - 1, y.output.length}) {
            Check.due(state + ": " + step.name + ", then output(" + k + ")", x.output(k), y.output(k));
        }
    }

    private static Step message() {
        return new Step("message()", ThresholdBench::message, Reference::message);
    }

    private static Step deal(int t, int n) {
        return new Step("deal(" + t + ", " + n + ")", x -> { x.deal(t, n); return 0; }, y -> { y.deal(t, n); return 0; });
    }

    private static Step change(int i) {
        return new Step("change(" + i + ")", x -> x.change(i), y -> y.change(i));
    }

    private static Step commit(int i) {
        return new Step("commit(" + i + ")", x -> { x.commit(i); return 0; }, y -> { y.commit(i); return 0; });
    }

    private static Step choose(int set) {
        return new Step("choose(" + set + ")", x -> { x.choose(set); return 0; }, y -> { y.choose(set); return 0; });
    }

    private static Step share(int i) {
        return new Step("share(" + i + ")", x -> { x.share(i); return 0; }, y -> { y.share(i); return 0; });
    }

    private static Step other(int i) {
        return new Step("other(" + i + ")", x -> { x.other(i); return 0; }, y -> { y.other(i); return 0; });
    }

    private static Step right(int i) {
        return new Step("right(" + i + ")", x -> x.right(i), y -> y.right(i));
    }

    private static Step gather() {
        return new Step("gather()", ThresholdBench::gather, Reference::gather);
    }

    private static Step holds() {
        return new Step("holds()", ThresholdBench::holds, Reference::holds);
    }

    private static Step show(int what, int i) {
        return new Step("show(" + what + ", " + i + ")", x -> x.show(what, i), y -> y.show(what, i));
    }

    private static Step output(int k) {
        return new Step("output(" + k + ")", x -> x.output(k), y -> y.output(k));
    }

    private static Step about(int what) {
        return new Step("about(" + what + ")", x -> x.about(what), y -> y.about(what));
    }

    private static Step feed(int n) {
        return new Step("feed(" + n + ", ..)", x -> x.feed(n, MIN, -1, 0, MAX, 255), y -> y.feed(n, MIN, -1, 0, MAX, 255));
    }

    private static List<Step> feed(String tape) {
        List<Step> steps = new ArrayList<>();
        byte[] row = Check.bytes(tape);
        for (int at = 0; at < row.length; at += 20) {
            int n = Math.min(20, row.length - at);
            int[] w = Check.words(row, at, n);
            steps.add(new Step("feed(" + n + ", ..)", x -> x.feed(n, w[0], w[1], w[2], w[3], w[4]),
                y -> y.feed(n, w[0], w[1], w[2], w[3], w[4])));
        }
        return steps;
    }

    private static List<Step> by(String tape, Step step) {
        List<Step> steps = feed(tape);
        steps.add(step);
        return steps;
    }

    @SafeVarargs
    private static List<Step> way(List<Step>... parts) {
        List<Step> all = new ArrayList<>();
        for (List<Step> part : parts) {
            all.addAll(part);
        }
        return all;
    }

    private static Map<String, List<Step>> states() {
        List<Step> dealt = by(Check.number(5) + Check.number(7), deal(2, 3));
        List<Step> messaged = way(dealt, by("74657374", message()));
        List<Step> one = way(messaged, by(chance(3), commit(3)));
        List<Step> chosen = way(one, by(chance(1), commit(1)), List.of(choose(5)));
        List<Step> all = way(chosen, List.of(share(3), share(1), gather()));
        Map<String, List<Step>> states = new LinkedHashMap<>();
        states.put("new", List.of());
        states.put("a deal was refused", way(by("", deal(2, 3)), by("aa", message())));
        states.put("dealt", dealt);
        states.put("3 has committed", one);
        states.put("chosen", chosen);
        states.put("1 has shared", way(chosen, List.of(share(1))));
        states.put("3 gave no number below q", way(chosen, by(MOST, other(3))));
        states.put("gathered", all);
        states.put("the set is gone", way(chosen, List.of(share(1)), by("", message())));
        states.put("1 has 0 as its secret", way(chosen, by(Check.number(0), change(1))));
        states.put("fewer are dealt anew", way(
            by(Check.number(3).repeat(8), deal(8, 8)), by(chance(8), commit(8)), by(chance(7), commit(7)), all,
            by(Check.number(9).repeat(2), deal(2, 2)), by(chance(2), commit(2))));
        states.put("eight of eight", way(
            by(Check.number(3).repeat(8), deal(8, 8)), allOfEight(), List.of(choose(255), share(8))));
        return states;
    }

    private static List<Step> allOfEight() {
        List<Step> steps = new ArrayList<>();
        for (int i = 1; i <= 8; i++) {
            steps.addAll(by(chance(i), commit(i)));
        }
        return steps;
    }

    private static List<String> tapes() {
        List<String> tapes = new ArrayList<>(List.of("", "00", "ff".repeat(31), Check.number(0), Check.number(12), Q,
            BELOW_Q, MOST, "01".repeat(33), "02" + Check.number(1), "00".repeat(63), "00".repeat(64), "ff".repeat(64),
            Check.number(5) + Check.number(9), BELOW_Q + Check.number(2), BELOW_Q + Check.number(1)));
        for (int head : new int[] {0, 2, 3, 255}) {
            String first = String.format("%02x", head);
            tapes.add(first + Check.number(1) + BELOW_Q);
            tapes.add(first + hex(Reference.P) + Check.number(0));
        }
        tapes.addAll(List.of("02" + Check.number(1) + Q, "02" + MOST + MOST, "03" + Check.number(5) + Check.number(0),
            "01".repeat(66), Check.number(7).repeat(3), "80".repeat(100), "80".repeat(101),
            Check.number(1).repeat(8), "7f".repeat(299), "ff".repeat(300)));
        return tapes;
    }

    private static List<Step> callsThatTakeTheTape(boolean manySizes) {
        List<Step> steps = new ArrayList<>(List.of(message(), holds(), deal(2, 3), deal(8, 8), deal(3, 8)));
        for (int n : COUNTS) {
            steps.add(feed(n));
        }
        for (int i : WHO) {
            steps.add(change(i));
            steps.add(commit(i));
            steps.add(other(i));
        }
        for (int t : SIZES) {
            for (int n : manySizes ? SIZES : new int[] {8}) {
                steps.add(deal(t, n));
            }
        }
        return steps;
    }

    private static List<Step> callsThatDoNot() {
        List<Step> steps = new ArrayList<>(List.of(gather()));
        for (int set : SETS) {
            steps.add(choose(set));
        }
        for (int i : WHO) {
            steps.add(share(i));
            steps.add(right(i));
            steps.add(output(i));
            steps.add(about(i));
            for (int what : WHATS) {
                steps.add(show(what, i));
            }
        }
        return steps;
    }
}
