import java.util.HexFormat;

/** What the tests have in common: counting answers, feeding bytes, reading the output. */
final class Check {
    private static final int MOST_SECONDS = 600;

    private static int looked = 0;
    private static int wrong = 0;
    private static int sentences = 0;
    private static String sentence = "";

    static {
        Thread watch = new Thread(Check::endAfterAll);
        watch.setDaemon(true);
        watch.start();
    }

    private Check() {
    }

    /** A call that does not end makes the test fail; it does not keep it for ever. */
    private static void endAfterAll() {
        try {
            Thread.sleep(1000L * MOST_SECONDS);
        } catch (InterruptedException e) {
            return;
        }
        System.out.println(sentence + "no end after " + MOST_SECONDS + " seconds");
        Runtime.getRuntime().halt(1);
    }

    static void due(String what, long got, long want) {
        due(what, Long.toString(got), Long.toString(want));
    }

    static void due(String what, boolean got, boolean want) {
        due(what, Boolean.toString(got), Boolean.toString(want));
    }

    static void due(String what, String got, String want) {
        looked++;
        if (!got.equals(want)) {
            wrong++;
            System.out.println(sentence + what + " answered " + got + ", due is " + want);
        }
    }

    /** What follows tests this sentence of the document: it is told with each answer that is not as due. */
    static void sentence(String place, String words) {
        sentences++;
        sentence = place + ", \"" + words + "\": ";
    }

    static boolean allRight() {
        return wrong == 0;
    }

    static void end() {
        System.out.println((sentences == 0 ? "" : sentences + " sentences, ") + looked + " answers, "
            + wrong + " not as due");
        if (wrong != 0 || looked == 0) {
            System.exit(1);
        }
    }

    /** The simple name of what the call throws, or what it answers as text. */
    static String answer(Call call) {
        try {
            return String.valueOf(call.run());
        } catch (RuntimeException e) {
            return e.getClass().getSimpleName();
        }
    }

    static void throwsDue(String what, Call call, Class<? extends RuntimeException> want) {
        due(what, answer(call), want.getSimpleName());
    }

    interface Call {
        Object run();
    }

    static byte[] bytes(String hex) {
        return HexFormat.of().parseHex(hex);
    }

    /** A number as 32 bytes in hex. */
    static String number(long value) {
        return String.format("%064x", value);
    }

    static int[] words(byte[] row, int at, int n) {
        int[] words = new int[5];
        for (int k = 0; k < n; k++) {
            words[k / 4] |= (row[at + k] & 255) << (24 - 8 * (k % 4));
        }
        return words;
    }
}
