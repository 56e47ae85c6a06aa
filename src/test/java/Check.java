import java.nio.charset.StandardCharsets;
import java.util.NoSuchElementException;

/** What the tests share: comparing answers, and putting texts and rows on the tape. */
final class Check {
    private static int asked = 0;
    private static int wrong = 0;

    private Check() {
    }

    static void same(String what, long got, long due) {
        asked++;
        if (got != due) {
            wrong++;
            System.out.println(what + " answered " + got + ", due is " + due);
        }
    }

    static void yes(String what, boolean got) {
        same(what, got ? 1 : 0, 1);
    }

    static void no(String what, boolean got) {
        same(what, got ? 1 : 0, 0);
    }

    static boolean noneWrong() {
        return wrong == 0;
    }

    /** Ends the test: exit code 1 if an answer was wrong. */
    static void end() {
        System.out.println(asked + " answers, " + wrong + " wrong");
        if (wrong != 0) {
            System.exit(1);
        }
    }

    static byte[] bytes(int... numbers) {
        byte[] row = new byte[numbers.length];
        for (int i = 0; i < row.length; i++) {
            row[i] = (byte) numbers[i];
        }
        return row;
    }

    static byte[] text(String text) {
        return text.getBytes(StandardCharsets.ISO_8859_1);
    }

    /** The five numbers that feed the i-th twenty bytes of a row (0 behind its end). */
    static int[] numbers(byte[] row, int i) {
        int[] five = new int[5];
        for (int k = 0; k < 20; k++) {
            int at = 20 * i + k;
            five[k / 4] = five[k / 4] << 8 | (at < row.length ? row[at] & 255 : 0);
        }
        return five;
    }

    /** The tape is this row alone. */
    static PaperBoys tape(PaperBoys x, byte[] row) {
        yes("end(0)", x.end(0));
        for (int i = 0; 20 * i < row.length; i++) {
            int[] f = numbers(row, i);
            same("feed", x.feed(f[0], f[1], f[2], f[3], f[4]), 20 * (i + 1));
        }
        yes("end(" + row.length + ")", x.end(row.length));
        return x;
    }

    static PaperBoys tape(PaperBoys x, String text) {
        return tape(x, text(text));
    }

    static PaperBoys tape(PaperBoys x, int... numbers) {
        return tape(x, bytes(numbers));
    }

    static void noCoin(PaperBoys x, int b) {
        boolean thrown = false;
        try {
            x.coin(b);
        } catch (NoSuchElementException e) {
            thrown = true;
        }
        yes("coin(" + b + ") throws", thrown);
    }

    static void noOf(PaperBoys x, int k, int what) {
        boolean thrown = false;
        try {
            x.of(k, what);
        } catch (NoSuchElementException e) {
            thrown = true;
        }
        yes("of(" + k + ", " + what + ") throws", thrown);
    }
}
