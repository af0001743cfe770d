import java.util.HexFormat;

/** What the tests have in common: counting answers, feeding bytes, reading the output. */
final class Check {
    private static int looked = 0;
    private static int wrong = 0;

    private Check() {
    }

    static void due(String what, long got, long want) {
        due(what, Long.toString(got), Long.toString(want));
    }

    static void due(String what, boolean got, boolean want) {
        due(what, Boolean.toString(got), Boolean.toString(want));
    }

    static void due(String what, String got, String want) {
        looked++;
        if (!got.equals(want)) {
            wrong++;
            System.out.println(what + " answered " + got + ", due is " + want);
        }
    }

    static boolean allRight() {
        return wrong == 0;
    }

    static void end() {
        System.out.println(looked + " answers, " + wrong + " not as due");
        if (wrong != 0 || looked == 0) {
            System.exit(1);
        }
    }

    /** The simple name of what the call throws, or what it answers as text. */
    static String answer(Call call) {
        try {
            return String.valueOf(call.run());
        } catch (RuntimeException e) {
            return e.getClass().getSimpleName();
        }
    }

    static void throwsDue(String what, Call call, Class<? extends RuntimeException> want) {
        due(what, answer(call), want.getSimpleName());
    }

    interface Call {
        Object run();
    }

    static byte[] bytes(String hex) {
        return HexFormat.of().parseHex(hex);
    }

    /** A number as 32 bytes in hex. */
    static String number(long value) {
        return String.format("%064x", value);
    }

    static void feed(ThresholdBench x, String hex) {
        feed(x, bytes(hex));
    }

    static void feed(ThresholdBench x, byte[] row) {
        for (int at = 0; at < row.length; at += 20) {
            int n = Math.min(20, row.length - at);
            int[] words = words(row, at, n);
            x.feed(n, words[0], words[1], words[2], words[3], words[4]);
        }
    }

    static int[] words(byte[] row, int at, int n) {
        int[] words = new int[5];
        for (int k = 0; k < n; k++) {
            words[k / 4] |= (row[at + k] & 255) << (24 - 8 * (k % 4));
        }
        return words;
    }

    static String output(ThresholdBench x) {
        StringBuilder hex = new StringBuilder();
        for (int k = 0; x.output(k) != ThresholdBench.NONE; k++) {
            hex.append(String.format("%02x", x.output(k)));
        }
        return hex.toString();
    }

    static String show(ThresholdBench x, int what, int i) {
        int count = x.show(what, i);
        String out = output(x);
        due("show(" + what + ", " + i + ") counts its output", count, out.length() / 2);
        return out;
    }
}
