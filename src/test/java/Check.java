import java.nio.charset.StandardCharsets;
import java.util.Arrays;
import java.util.NoSuchElementException;

/** What the tests share: comparing answers, and putting texts and rows on the tape. */
final class Check {
    private static final int PROMISES = 36;
    private static final int[] told = new int[PROMISES + 1];
    private static int asked = 0;
    private static int wrong = 0;
    private static String about = "";

    private Check() {
    }

    static void same(String what, long got, long due) {
        asked++;
        if (got != due) {
            wrong++;
            System.out.println(about + what + " answered " + got + ", due is " + due);
        }
    }

    /** What follows is a test of this promise, and of the sentence of it (or of "Terms") that is written out. */
    static void promise(int number, String sentence) {
        told[number]++;
        about = "Promise " + number + " (" + sentence + "): ";
    }

    /** What follows is a test of the paragraph of "Terms" that begins with these words. */
    static void paragraph(String words) {
        about = "Terms (" + words + "): ";
    }

    /** Each of these promises had a test. */
    static void hadAll(int first, int last) {
        about = "";
        for (int number = first; number <= last; number++) {
            yes("a test of promise " + number, told[number] > 0);
        }
    }

    static void yes(String what, boolean got) {
        same(what, got ? 1 : 0, 1);
    }

    static void no(String what, boolean got) {
        same(what, got ? 1 : 0, 0);
    }

    static boolean noneWrong() {
        return wrong == 0;
    }

    /** Ends the test: exit code 1 if an answer was wrong. */
    static void end() {
        System.out.println(asked + " answers, " + wrong + " wrong");
        if (wrong != 0) {
            System.exit(1);
        }
    }

    static byte[] bytes(int... numbers) {
        byte[] row = new byte[numbers.length];
        for (int i = 0; i < row.length; i++) {
            row[i] = (byte) numbers[i];
        }
        return row;
    }

    static byte[] text(String text) {
        return text.getBytes(StandardCharsets.ISO_8859_1);
    }

    /** The five numbers that feed the i-th twenty bytes of a row (0 behind its end). */
    static int[] numbers(byte[] row, int i) {
        int[] five = new int[5];
        for (int k = 0; k < 20; k++) {
            int at = 20 * i + k;
            five[k / 4] = five[k / 4] << 8 | (at < row.length ? row[at] & 255 : 0);
        }
        return five;
    }

    /** The tape is this row alone. */
    static PaperBoys tape(PaperBoys x, byte[] row) {
        yes("end(0)", x.end(0));
        for (int i = 0; 20 * i < row.length; i++) {
            int[] f = numbers(row, i);
            same("feed", x.feed(f[0], f[1], f[2], f[3], f[4]), 20 * (i + 1));
        }
        yes("end(" + row.length + ")", x.end(row.length));
        return x;
    }

    static PaperBoys tape(PaperBoys x, String text) {
        return tape(x, text(text));
    }

    static PaperBoys tape(PaperBoys x, int... numbers) {
        return tape(x, bytes(numbers));
    }

    static int terms(PaperBoys x, int from, String text) {
        return tape(x, text).terms(from);
    }

    static int tried(PaperBoys x, String text) {
        return tape(x, text).tried();
    }

    /** Drives to one or more corners, told as pairs of a corner and a minute. */
    static int truck(PaperBoys x, int... pairs) {
        int[] row = new int[20];
        Arrays.fill(row, 255);
        for (int i = 0; i < pairs.length; i += 2) {
            row[2 * pairs[i]] = pairs[i + 1] / 256;
            row[2 * pairs[i] + 1] = pairs[i + 1] % 256;
        }
        return tape(x, row).truck();
    }

    static void closeDays(PaperBoys x, int days) {
        for (int i = 0; i < days; i++) {
            same("close", x.close(), 0);
        }
    }

    static void noCoin(PaperBoys x, int b) {
        boolean thrown = false;
        try {
            x.coin(b);
        } catch (NoSuchElementException e) {
            thrown = true;
        }
        yes("coin(" + b + ") throws", thrown);
    }

    static void noOf(PaperBoys x, int k, int what) {
        boolean thrown = false;
        try {
            x.of(k, what);
        } catch (NoSuchElementException e) {
            thrown = true;
        }
        yes("of(" + k + ", " + what + ") throws", thrown);
    }
}
