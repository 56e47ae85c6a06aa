import java.util.NoSuchElementException;
import java.util.Random;

/** Long runs of calls, drawn from a fixed seed, on PaperBoys and on the Model: every answer must be the same. */
public final class ModelTest {
    private static final int RUNS = 400;
    /** The document promises 512 calls; the round of calls that goes on behind this number stays below them. */
    private static final int CALLS = 460;
    private static final String[] PIECES = {"price ", "cry ", "back ", "most ", "sell ", "owe ", "if ", "not ", "and ",
        "or ", "school ", "badge ", "owner ", "age", "hour", "week", "day", "paper", "corner", "copies", "weather",
        "fists", "<", "=", ">", "(", ")", ";", " ", "\n", "5 ", "60 ", "1000 ", "1001 ", "9999 ", "10000", "x", "A"};

    private final Random random;
    private final PaperBoys x = new PaperBoys();
    private final Model m = new Model();
    private int calls = 0;
    private String last = "";

    private ModelTest(long seed) {
        random = new Random(seed);
    }

    public static void main(String[] args) {
        for (int run = 0; run < RUNS && Check.noneWrong(); run++) {
            new ModelTest(run).play(run);
        }
        Check.end();
    }

    private void play(int run) {
        int sort = run % 8;
        same("boys", 0, 0);
        if (sort < 5) {
            settle();
        }
        while (calls < CALLS && Check.noneWrong()) {
            switch (sort) {
                case 5:
                    text(random.nextBoolean());
                    break;
                case 6:
                    partingOrTruck();
                    break;
                case 7:
                    bestOrStrike();
                    break;
                default:
                    dayCall();
                    break;
            }
        }
        if (!Check.noneWrong()) {
            System.out.println("seed " + run + ", call " + calls + ", last text '" + last + "'");
        }
    }

    private void same(String what, long got, long due) {
        calls++;
        Check.same(what, got, due);
    }

    private void same(String what, boolean got, boolean due) {
        same(what, got ? 1 : 0, due ? 1 : 0);
    }

    private int below(int n) {
        return random.nextInt(n);
    }

    /** Mostly within 0 .. n - 1, now and then a little or far outside. */
    private int near(int n) {
        int luck = below(40);
        if (luck == 0) {
            return below(2) == 0 ? -1 : n;
        }
        return luck == 1 ? random.nextInt() : below(n);
    }

    private void tape(byte[] row) {
        same("end", x.end(0), m.end(0));
        for (int i = 0; 20 * i < row.length; i++) {
            int[] f = Check.numbers(row, i);
            same("feed", x.feed(f[0], f[1], f[2], f[3], f[4]), m.feed(f));
        }
        same("end", x.end(row.length), m.end(row.length));
    }

    private byte[] row(int length, int most) {
        byte[] row = new byte[length];
        for (int i = 0; i < length; i++) {
            row[i] = (byte) below(most + 1);
        }
        return row;
    }

    private void settle() {
        int boys = 2 + below(12);
        for (int i = 0; i < boys; i++) {
            boy();
        }
        for (int corner = 0; corner < 3; corner++) {
            for (int paper = 0; paper < 2; paper++) {
                int n = below(200);
                same("want", x.want(corner, paper, n), m.want(corner, paper, n));
            }
        }
        text(true);
    }

    private void boy() {
        int age = 6 + near(13);
        boolean school = random.nextBoolean();
        int badge = near(12) - 1;
        int fists = below(5) * 20;
        same("boy", x.boy(age, school, badge, fists), m.boy(age, school, badge, fists));
    }

    // ---- texts

    private String one(int depth) {
        int luck = below(depth > 9 ? 7 : 11);
        if (luck < 3) {
            return new String[] {"school", "badge", "owner"}[luck];
        }
        if (luck < 7) {
            String fact = PIECES[13 + below(9)];
            return fact + "<=>".charAt(below(3)) + below(below(4) == 0 ? 100 : 12);
        }
        return luck < 9 ? "not " + one(depth + 1) : "(" + cond(depth + 1) + ")";
    }

    private String cond(int depth) {
        StringBuilder cond = new StringBuilder(one(depth));
        while (below(3) == 0) {
            cond.append(below(2) == 0 ? " and " : " or ").append(one(depth));
        }
        return cond.toString();
    }

    private String line() {
        int kind = below(11);
        String rest = below(3) == 0 ? ";" : " if " + cond(1) + ";";
        if (kind == 10) {
            return "owe " + below(1001) + ";";
        }
        if (kind > 7) {
            return "sell" + (below(3) > 0 ? " not" : "") + rest;
        }
        int most = new int[] {150, 5, 130, 400}[kind % 4];
        return PIECES[kind % 4] + below(most) + rest;
    }

    private String randomText(boolean wellMade) {
        StringBuilder text = new StringBuilder();
        int lines = below(12) == 0 ? 18 : below(8);
        for (int i = 0; i < lines; i++) {
            text.append(line()).append(below(3) == 0 ? "\n" : "");
        }
        int changes = wellMade ? 0 : 1 + below(3);
        for (int i = 0; i < changes; i++) {
            int at = below(text.length() + 1);
            if (below(2) == 0 && at < text.length()) {
                text.delete(at, Math.min(text.length(), at + 1 + below(4)));
            } else {
                text.insert(at, below(8) == 0 ? " ".repeat(below(300)) : PIECES[below(PIECES.length)]);
            }
        }
        int most = wellMade ? 300 : 420;
        return text.length() > most ? text.substring(0, most) : text.toString();
    }

    private void text(boolean wellMade) {
        last = randomText(wellMade);
        tape(Check.text(last));
        if (below(2) == 0) {
            int from = m.count(0) + near(6);
            same("terms", x.terms(from), m.terms(from));
        } else {
            same("tried", x.tried(), m.tried());
            same("triedEaten", x.triedEaten(), m.triedEaten());
        }
        same("fault", x.fault(), m.fault());
        same("count", x.count(3), m.count(3));
    }

    // ---- days

    private void dayCall() {
        switch (below(24)) {
            case 0:
                same("close", x.close(), m.close());
                break;
            case 1:
                text(below(4) > 0);
                break;
            case 2:
                weather();
                break;
            case 3:
                setCity();
                break;
            case 4:
                counts();
                break;
            case 5:
            case 6:
            case 7:
                ofAndCoin();
                break;
            case 8:
            case 9:
            case 10:
                int k = near(m.count(2) + 1);
                int what = near(6);
                same("told", x.told(k, what), m.told(k, what));
                same("why", x.why(), m.why());
                break;
            case 11:
                int n = near(6);
                same("count", x.count(n), m.count(n));
                break;
            default:
                int b = near(Math.max(1, m.count(1)));
                int paper = near(2);
                int corner = near(3);
                int copies = below(6) == 0 ? 1 + near(1000) : 1 + near(90);
                int hour = 4 + near(5);
                same("bundle", x.bundle(b, paper, corner, copies, hour), m.bundle(b, paper, corner, copies, hour));
                break;
        }
    }

    private void weather() {
        byte[] row = row(1 + below(30), 3);
        for (int i = 0; i < row.length; i++) {
            row[i] = below(4) == 0 ? (byte) 255 : below(300) == 0 ? 4 : row[i];
        }
        tape(row);
        same("weather", x.weather(), m.weather());
        int day = near(40);
        same("sky", x.sky(day), m.sky(day));
    }

    private void setCity() {
        int a = near(3);
        int b = near(2);
        int n = near(201);
        switch (below(6)) {
            case 0:
                same("want", x.want(a, b, n), m.want(a, b, n));
                break;
            case 1:
                int boy = near(m.count(1) + 1) - 1;
                same("owner", x.owner(a, boy), m.owner(a, boy));
                break;
            case 2:
                int i = near(6);
                same("table", x.table(b, i, n), m.table(b, i, n));
                break;
            case 3:
                int day = m.count(0) + near(4) - 1;
                int h = near(6);
                same("headline", x.headline(b, day, h), m.headline(b, day, h));
                break;
            case 4:
                int up = near(12) - 1;
                int whose = near(m.count(1) + 1);
                same("badge", x.badge(whose, up), m.badge(whose, up));
                break;
            default:
                int w = near(4);
                int loud = near(6);
                same("asked", x.asked(a, b, w, loud), m.asked(a, b, w, loud));
                break;
        }
    }

    private void counts() {
        int paper = near(2);
        int corner = near(3);
        int day = near(m.count(0) + 1);
        int copies = below(9) == 0 ? near(10001) : below(80);
        same("counted", x.counted(paper, corner, day, copies), m.counted(paper, corner, day, copies));
        int t = near(m.count(0) + 2);
        same("falseCounts", x.falseCounts(t), m.falseCounts(t));
        same("shortOf", x.shortOf(t), m.shortOf(t));
    }

    private void ofAndCoin() {
        int k = near(m.count(2) + 1);
        int what = near(5);
        long got;
        long due;
        try {
            got = x.of(k, what);
        } catch (NoSuchElementException e) {
            got = Long.MIN_VALUE;
        }
        try {
            due = m.of(k, what);
        } catch (NoSuchElementException e) {
            due = Long.MIN_VALUE;
        }
        same("of", got, due);
        int b = near(m.count(1) + 1);
        try {
            got = x.coin(b);
        } catch (NoSuchElementException e) {
            got = Long.MIN_VALUE;
        }
        try {
            due = m.coin(b);
        } catch (NoSuchElementException e) {
            due = Long.MIN_VALUE;
        }
        same("coin", got, due);
    }

    // ---- partings, trucks, chances, strikes

    private void partingOrTruck() {
        if (below(3) == 0) {
            int n = below(60) == 0 ? 7 + below(2) : 1 + below(6);
            int most = new int[] {2, 9, 255}[below(3)];
            tape(row(2 * n * n + (below(30) == 0 ? 1 : 0), most));
            int way = below(30) == 0 ? 2 : below(2);
            int sum = below(3) == 0 ? near(257) : 1 + below(1 + most / 2);
            same("parted", x.parted(n, way, sum), m.parted(n, way, sum));
            for (int k = -1; k <= n; k++) {
                same("partedAt", x.partedAt(k), m.partedAt(k));
            }
            int other = 1 + below(1 + most / 2);
            same("peace", x.peace(other), m.peace(other));
        } else if (below(2) == 0) {
            int a = near(10);
            int b = near(10);
            int n = below(3) == 0 ? near(201) : 1 + below(5);
            same("minutes", x.minutes(a, b, n), m.minutes(a, b, n));
        } else {
            truck();
        }
    }

    private void truck() {
        byte[] row = row(below(40) == 0 ? 19 : 20, 0);
        int much = 20 + below(120);
        int share = 2 + below(8);
        for (int i = 0; i + 1 < row.length; i += 2) {
            int minute = below(10) < share ? below(3) == 0 ? below(much) : 60 + below(400) : 65535;
            row[i] = (byte) (minute / 256);
            row[i + 1] = (byte) minute;
        }
        tape(row);
        same("truck", x.truck(), m.truck());
        for (int k = 0; k < 10; k++) {
            same("truckAt", x.truckAt(k), m.truckAt(k));
        }
    }

    private void bestOrStrike() {
        if (below(2) == 0) {
            int corner = near(3);
            int paper = near(2);
            int n = near(401);
            same("want", x.want(corner, paper, n), m.want(corner, paper, n));
            int i = below(6);
            int sort = below(2);
            int hundredths = near(301);
            same("table", x.table(sort, i, hundredths), m.table(sort, i, hundredths));
            tape(row(below(30) == 0 ? 9 : 10, below(30) == 0 ? 21 : 20));
            int price = below(3) == 0 ? near(1001) : below(200);
            int cry = below(3) == 0 ? near(1001) : below(4);
            int back = near(101);
            same("best", x.best(corner, paper, price, cry, back), m.best(corner, paper, price, cry, back));
            same("expected", x.expected(), m.expected());
        } else {
            strike();
        }
    }

    private void strike() {
        byte[] row = row(below(105), 120);
        for (int i = 1; i < row.length; i += 2) {
            row[i] = (byte) (row[i] + below(20) + (below(2) == 0 ? 100 : 40));
        }
        tape(row);
        int fund = near(100001);
        int need = near(6000);
        int growth = near(300);
        int purse = near(100001);
        int loss = near(9000);
        same("strike", x.strike(fund, need, growth, purse, loss), m.strike(fund, need, growth, purse, loss));
        same("struck", x.struck(0), m.struck(0));
        same("struck", x.struck(1), m.struck(1));
    }
}
