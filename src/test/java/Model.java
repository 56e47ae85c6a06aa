import java.nio.charset.StandardCharsets;
import java.util.ArrayList;
import java.util.Arrays;
import java.util.Comparator;
import java.util.HashMap;
import java.util.List;
import java.util.Map;
import java.util.NoSuchElementException;
import java.util.function.ToIntFunction;
import java.util.regex.Matcher;
import java.util.regex.Pattern;

/** The document once more, written as slowly and plainly as can be, to hold PaperBoys against. */
final class Model {
    static final int NONE = -1;
    private static final Pattern TOKEN = Pattern.compile("[a-z0-9]+|[^ \n]");

    /** A FAULT on its way out of the parser. */
    private static final class Fault extends Exception {
        private static final long serialVersionUID = 1L;
        final int kind;
        final int place;

        Fault(int kind, int place) {
            this.kind = kind;
            this.place = place;
        }
    }

    private interface Cond {
        boolean holds(Map<String, Integer> facts);
    }

    private record Line(String kind, int number, Cond cond) {
    }

    private record Text(int from, List<Line> lines) {
    }

    private record Token(String text, int place) {
    }

    private record Count(int day, int paper, int corner, int copies, int told) {
    }

    private static final class Boy {
        int age;
        boolean school;
        int badge;
        int fists;
        int coin;
    }

    private static final class Bundle {
        int number;
        int boy;
        int paper;
        int corner;
        int copies;
        int hour;
        int day;
        int cost;
        int sold;
        int back;
        int eaten;
    }

    private String tape = "";
    private int today = 0;
    private final List<Boy> boys = new ArrayList<>();
    private final List<Bundle> bundles = new ArrayList<>();
    private final List<Text> texts = new ArrayList<>();
    private final List<Count> counts = new ArrayList<>();
    private String weather = null;
    private final Map<String, Integer> headlines = new HashMap<>();
    private final Map<String, Integer> table = new HashMap<>();
    private final Map<String, Integer> wants = new HashMap<>();
    private final Map<String, Integer> minutes = new HashMap<>();
    private final Map<Integer, Integer> owners = new HashMap<>();
    private int fault = 0;
    private int why = NONE;
    private long expected = 0;
    private int triedEaten = NONE;
    private int[] parted = null;
    private int[][] gains;
    private int[][] mights;
    private List<Integer> way = List.of();
    private int[] struck = {NONE, NONE};

    // ---- the tape

    int feed(int... five) {
        if (tape.length() + 20 > 420) {
            return NONE;
        }
        StringBuilder more = new StringBuilder(tape);
        for (int n : five) {
            byte[] four = java.nio.ByteBuffer.allocate(4).putInt(n).array();
            more.append(new String(four, StandardCharsets.ISO_8859_1));
        }
        tape = more.toString();
        return tape.length();
    }

    boolean end(int n) {
        if (n < 0 || n > tape.length()) {
            return false;
        }
        tape = tape.substring(0, n);
        return true;
    }

    private String takeTape() {
        String taken = tape;
        tape = "";
        return taken;
    }

    // ---- boys, corners, weather

    private static boolean in(int n, int least, int most) {
        return least <= n && n <= most;
    }

    int boy(int age, boolean school, int badge, int fists) {
        if (boys.size() == 40 || !in(age, 6, 18) || !in(badge, -1, 399) || !in(fists, 0, 99)) {
            return NONE;
        }
        Boy boy = new Boy();
        boy.age = age;
        boy.school = school;
        boy.badge = badge;
        boy.fists = fists;
        boys.add(boy);
        return boys.size() - 1;
    }

    boolean badge(int b, int day) {
        if (!in(b, 0, boys.size() - 1) || !in(day, -1, 399)) {
            return false;
        }
        boys.get(b).badge = day;
        return true;
    }

    boolean owner(int corner, int b) {
        if (!in(corner, 0, 9) || !in(b, -1, boys.size() - 1)) {
            return false;
        }
        owners.put(corner, b);
        return true;
    }

    boolean weather() {
        String row = takeTape();
        if (!in(row.length(), 1, 400) || !row.chars().allMatch(b -> b <= 3 || b == 255)) {
            return false;
        }
        weather = row;
        return true;
    }

    int sky(int day) {
        if (!in(day, 0, 399)) {
            return NONE;
        }
        if (weather == null) {
            return 0;
        }
        if (day >= weather.length()) {
            return 3;
        }
        int b = weather.charAt(day);
        return b != 255 ? b : day == 0 ? 0 : sky(day - 1);
    }

    boolean headline(int paper, int day, int h) {
        if (!in(paper, 0, 3) || !in(day, today, 399) || !in(h, 0, 5)) {
            return false;
        }
        headlines.put(paper + "," + day, h);
        return true;
    }

    boolean table(int sort, int i, int hundredths) {
        if (!in(sort, 0, 1) || !in(i, 0, sort == 0 ? 3 : 5) || !in(hundredths, 0, 300)) {
            return false;
        }
        table.put(sort + "," + i, hundredths);
        return true;
    }

    boolean want(int corner, int paper, int n) {
        if (!in(corner, 0, 9) || !in(paper, 0, 3) || !in(n, 0, 400)) {
            return false;
        }
        wants.put(corner + "," + paper, n);
        return true;
    }

    int asked(int corner, int paper, int sky, int h) {
        if (!in(corner, 0, 9) || !in(paper, 0, 3) || !in(sky, 0, 3) || !in(h, 0, 5)) {
            return NONE;
        }
        int n = wants.getOrDefault(corner + "," + paper, 0);
        n = n * table.getOrDefault("0," + sky, 100) / 100;
        return n * table.getOrDefault("1," + h, 100) / 100;
    }

    boolean minutes(int a, int b, int n) {
        if (!in(a, 0, 9) || !in(b, 0, 9) || a == b || !in(n, 1, 200)) {
            return false;
        }
        minutes.put(a + "," + b, n);
        minutes.put(b + "," + a, n);
        return true;
    }

    // ---- terms

    private static final class Parser {
        final List<Token> tokens = new ArrayList<>();
        final int end;
        int at = 0;
        int ones = 0;

        Parser(String text) {
            end = Math.min(300, text.length());
            Matcher m = TOKEN.matcher(text);
            while (m.find() && m.start() < 300) {
                tokens.add(new Token(m.group(), m.start()));
            }
        }

        String look() {
            return at < tokens.size() ? tokens.get(at).text : "";
        }

        Fault bad(int kind) {
            return new Fault(kind, at < tokens.size() ? tokens.get(at).place : end);
        }

        boolean accept(String... any) {
            if (Arrays.asList(any).contains(look())) {
                at++;
                return true;
            }
            return false;
        }

        void need(String token) throws Fault {
            if (!accept(token)) {
                throw bad(1);
            }
        }

        int number(int most) throws Fault {
            if (!look().matches("[0-9]{1,4}")) {
                throw bad(1);
            }
            int n = Integer.parseInt(look());
            if (n > most) {
                throw bad(2);
            }
            at++;
            return n;
        }

        List<Line> text(boolean tooLong) throws Fault {
            List<Line> lines = new ArrayList<>();
            while (at < tokens.size()) {
                String kind = look();
                if (!List.of("price", "cry", "back", "most", "sell", "owe").contains(kind)) {
                    throw bad(1);
                }
                if (lines.size() == 16 || kind.equals("owe") && lines.stream().anyMatch(l -> l.kind.equals("owe"))) {
                    throw bad(3);
                }
                at++;
                int number = kind.equals("sell") ? accept("not") ? 0 : 1 : number(1000);
                Cond cond = facts -> true;
                if (!kind.equals("owe") && accept("if")) {
                    cond = cond(1);
                }
                need(";");
                lines.add(new Line(kind, number, cond));
            }
            if (tooLong) {
                throw new Fault(1, 300);
            }
            return lines;
        }

        Cond cond(int depth) throws Fault {
            Cond left = all(depth);
            while (accept("or")) {
                Cond a = left;
                Cond b = all(depth);
                left = facts -> a.holds(facts) || b.holds(facts);
            }
            return left;
        }

        Cond all(int depth) throws Fault {
            Cond left = one(depth);
            while (accept("and")) {
                Cond a = left;
                Cond b = one(depth);
                left = facts -> a.holds(facts) && b.holds(facts);
            }
            return left;
        }

        Cond one(int depth) throws Fault {
            String first = look();
            boolean flag = List.of("school", "badge", "owner").contains(first);
            boolean number = List.of("age", "hour", "week", "day", "paper", "corner", "copies", "weather", "fists")
                    .contains(first);
            if (!flag && !number && !first.equals("not") && !first.equals("(")) {
                throw bad(1);
            }
            ones++;
            if (ones == 51 || depth == 11) {
                throw bad(4);
            }
            at++;
            if (first.equals("not")) {
                Cond a = one(depth + 1);
                return facts -> !a.holds(facts);
            }
            if (first.equals("(")) {
                Cond a = cond(depth + 1);
                need(")");
                return a;
            }
            if (flag) {
                return facts -> facts.get(first) == 1;
            }
            String sign = look();
            if (!accept("<", "=", ">")) {
                throw bad(1);
            }
            int n = number(9999);
            return facts -> Integer.signum(Integer.compare(facts.get(first), n)) == "<=>".indexOf(sign) - 1;
        }
    }

    private List<Line> parse(String text) throws Fault {
        return new Parser(text).text(text.length() > 300);
    }

    int terms(int from) {
        String text = takeTape();
        if (texts.size() == 10 || !in(from, today, 399)) {
            return -1000;
        }
        try {
            texts.add(new Text(from, parse(text)));
            fault = 0;
            return texts.get(texts.size() - 1).lines.size();
        } catch (Fault f) {
            fault = f.kind;
            return -1 - f.place;
        }
    }

    int fault() {
        return fault;
    }

    private List<Line> inForce(int day) {
        for (int from = day; from >= 0; from--) {
            for (int i = texts.size() - 1; i >= 0; i--) {
                if (texts.get(i).from == from) {
                    return texts.get(i).lines;
                }
            }
        }
        return List.of();
    }

    private Map<String, Integer> facts(Bundle k) {
        Boy boy = boys.get(k.boy);
        Map<String, Integer> facts = new HashMap<>();
        facts.put("school", boy.school ? 1 : 0);
        facts.put("badge", k.day <= boy.badge ? 1 : 0);
        facts.put("owner", owners.getOrDefault(k.corner, -1) == k.boy ? 1 : 0);
        facts.put("age", boy.age);
        facts.put("hour", k.hour);
        facts.put("week", k.day % 7);
        facts.put("day", k.day);
        facts.put("paper", k.paper);
        facts.put("corner", k.corner);
        facts.put("copies", k.copies);
        facts.put("weather", sky(k.day));
        facts.put("fists", boy.fists);
        return facts;
    }

    private int lineOf(List<Line> lines, Bundle k, String kind) {
        Map<String, Integer> facts = facts(k);
        for (int i = 0; i < lines.size(); i++) {
            if (lines.get(i).kind.equals(kind) && lines.get(i).cond.holds(facts)) {
                return i;
            }
        }
        return NONE;
    }

    private int ask(List<Line> lines, Bundle k, String kind) {
        int line = lineOf(lines, k, kind);
        if (line != NONE) {
            int n = lines.get(line).number;
            return kind.equals("back") && n > 100 ? 100 : n;
        }
        return Map.of("price", 60, "cry", 1, "back", 0, "most", 200, "sell", 1, "owe", 100).get(kind);
    }

    int told(int k, int what) {
        why = NONE;
        if (!in(k, 0, bundles.size() - 1) || !in(what, 0, 5)) {
            return NONE;
        }
        String kind = List.of("price", "cry", "back", "most", "sell", "owe").get(what);
        Bundle bundle = bundles.get(k);
        why = lineOf(inForce(bundle.day), bundle, kind);
        return ask(inForce(bundle.day), bundle, kind);
    }

    int why() {
        return why;
    }

    // ---- bundles and days

    private static int cost(int copies, int price) {
        int cents = copies * price;
        return cents % 100 == 0 ? cents / 100 : cents / 100 + 1;
    }

    int bundle(int b, int paper, int corner, int copies, int hour) {
        if (today == 400 || bundles.size() == 200 || !in(b, 0, boys.size() - 1) || !in(paper, 0, 3)
                || !in(corner, 0, 9) || !in(copies, 1, 1000) || !in(hour, 4, 20)) {
            return NONE;
        }
        Bundle k = new Bundle();
        k.number = bundles.size();
        k.boy = b;
        k.paper = paper;
        k.corner = corner;
        k.copies = copies;
        k.hour = hour;
        k.day = today;
        List<Line> lines = inForce(today);
        k.cost = cost(copies, ask(lines, k, "price"));
        int coin = boys.get(b).coin - k.cost;
        if (copies > ask(lines, k, "most") || coin < 0 && -coin > ask(lines, k, "owe")) {
            return NONE;
        }
        boys.get(b).coin = coin;
        bundles.add(k);
        return k.number;
    }

    /** Sold of each bundle of a day, by number. */
    private Map<Integer, Integer> soldOn(int day, ToIntFunction<Bundle> may) {
        Map<Integer, Integer> sold = new HashMap<>();
        for (int corner = 0; corner < 10; corner++) {
            for (int paper = 0; paper < 4; paper++) {
                int c = corner;
                int p = paper;
                int left = asked(c, p, sky(day), headlines.getOrDefault(p + "," + day, 0));
                List<Bundle> there = bundles.stream().filter(k -> k.day == day && k.corner == c && k.paper == p)
                        .sorted(Comparator.<Bundle>comparingInt(k -> k.hour)
                                .thenComparingInt(k -> owners.getOrDefault(c, -1) == k.boy ? 0 : 1)
                                .thenComparingInt(k -> -boys.get(k.boy).fists)
                                .thenComparingInt(k -> k.number)).toList();
                for (Bundle k : there) {
                    int n = may.applyAsInt(k) == 1 ? Math.min(left, k.copies) : 0;
                    sold.put(k.number, n);
                    left -= n;
                }
            }
        }
        return sold;
    }

    int close() {
        if (today == 400) {
            return NONE;
        }
        List<Line> lines = inForce(today);
        Map<Integer, Integer> sold = soldOn(today, k -> ask(lines, k, "sell"));
        for (Bundle k : bundles) {
            if (k.day == today) {
                k.sold = sold.get(k.number);
                k.back = (k.copies - k.sold) * ask(lines, k, "back") / 100;
                k.eaten = k.copies - k.sold - k.back;
                boys.get(k.boy).coin += k.sold * ask(lines, k, "cry") + k.back * ask(lines, k, "price") / 100;
            }
        }
        today++;
        return sold.values().stream().mapToInt(n -> n).sum();
    }

    int of(int k, int what) {
        if (!in(k, 0, bundles.size() - 1) || !in(what, 0, 4)) {
            throw new NoSuchElementException();
        }
        Bundle b = bundles.get(k);
        return new int[] {b.day, b.sold, b.back, b.eaten, b.cost}[what];
    }

    int coin(int b) {
        if (!in(b, 0, boys.size() - 1)) {
            throw new NoSuchElementException();
        }
        return boys.get(b).coin;
    }

    int tried() {
        List<Line> lines;
        try {
            lines = parse(takeTape());
        } catch (Fault f) {
            fault = f.kind;
            return -1000000000 - f.place;
        }
        fault = 0;
        triedEaten = 0;
        int gained = 0;
        for (int day = 0; day < today; day++) {
            Map<Integer, Integer> sold = soldOn(day, k -> ask(lines, k, "sell"));
            for (int number : sold.keySet()) {
                Bundle k = bundles.get(number);
                int n = sold.get(number);
                int back = (k.copies - n) * ask(lines, k, "back") / 100;
                int price = ask(lines, k, "price");
                gained += n * ask(lines, k, "cry") + back * price / 100 - cost(k.copies, price);
                triedEaten += k.copies - n - back;
            }
        }
        return gained;
    }

    int triedEaten() {
        return triedEaten;
    }

    // ---- counts

    int counted(int paper, int corner, int day, int copies) {
        if (counts.size() == 60 || !in(paper, 0, 3) || !in(corner, 0, 9) || !in(day, 0, today - 1)
                || !in(copies, 0, 10000)) {
            return NONE;
        }
        counts.add(new Count(day, paper, corner, copies, today));
        return counts.size() - 1;
    }

    private Map<String, Integer> countedAsOf(int t) {
        Map<String, Integer> last = new HashMap<>();
        for (Count c : counts) {
            if (c.told <= t) {
                last.put(c.day + "," + c.paper + "," + c.corner, c.copies);
            }
        }
        return last;
    }

    private Map<String, Integer> backs(int upTo) {
        Map<String, Integer> backs = new HashMap<>();
        for (Bundle k : bundles) {
            if (k.day < today && k.day <= upTo) {
                backs.merge(k.day + "," + k.paper + "," + k.corner, k.back, Integer::sum);
            }
        }
        return backs;
    }

    int falseCounts(int t) {
        Map<String, Integer> backs = backs(399);
        return (int) countedAsOf(t).entrySet().stream()
                .filter(e -> e.getValue() > backs.getOrDefault(e.getKey(), 0)).count();
    }

    int shortOf(int t) {
        Map<String, Integer> counted = countedAsOf(t);
        return backs(t).entrySet().stream()
                .mapToInt(e -> Math.max(0, e.getValue() - counted.getOrDefault(e.getKey(), 0))).sum();
    }

    // ---- best

    int best(int corner, int paper, int price, int cry, int back) {
        String row = takeTape();
        if (!in(corner, 0, 9) || !in(paper, 0, 3) || !in(price, 0, 1000) || !in(cry, 0, 1000) || !in(back, 0, 100)
                || row.length() != 10 || !row.chars().allMatch(b -> b <= 20)) {
            return NONE;
        }
        int best = NONE;
        for (int n = 0; n <= 400; n++) {
            long sum = 0;
            for (int w = 0; w < 4; w++) {
                for (int h = 0; h < 6; h++) {
                    int sold = Math.min(n, asked(corner, paper, w, h));
                    long gain = cry * sold - cost(n, price) + (n - sold) * back / 100 * price / 100;
                    sum += gain * row.charAt(w) * row.charAt(4 + h);
                }
            }
            if (best == NONE || sum > expected) {
                best = n;
                expected = sum;
            }
        }
        return best;
    }

    long expected() {
        return expected;
    }

    // ---- parting

    private static boolean next(int[] p) {
        int i = p.length - 2;
        while (i >= 0 && p[i] > p[i + 1]) {
            i--;
        }
        if (i < 0) {
            return false;
        }
        int j = p.length - 1;
        while (p[j] < p[i]) {
            j--;
        }
        int kept = p[i];
        p[i] = p[j];
        p[j] = kept;
        Arrays.sort(p, i + 1, p.length);
        return true;
    }

    private static boolean hasPeace(int[] p, int[][] gains, int[][] mights, int sum) {
        for (int i = 0; i < p.length; i++) {
            for (int j = 0; j < p.length; j++) {
                if (i != j && gains[i][p[j]] >= gains[i][p[i]] + sum && mights[i][p[j]] > mights[j][p[j]]) {
                    return false;
                }
            }
        }
        return true;
    }

    private static int[] byOffers(int[][] gains, int[][] mights) {
        int n = gains.length;
        int[] corner = new int[n];
        Arrays.fill(corner, NONE);
        List<List<Integer>> open = new ArrayList<>();
        for (int i = 0; i < n; i++) {
            List<Integer> corners = new ArrayList<>();
            for (int c = 0; c < n; c++) {
                corners.add(c);
            }
            open.add(corners);
        }
        // The last boy without a corner asks first here: the order must not matter.
        while (true) {
            int asker = n - 1;
            while (asker >= 0 && corner[asker] != NONE) {
                asker--;
            }
            if (asker < 0) {
                return corner;
            }
            int[] gain = gains[asker];
            int c = open.get(asker).stream().max(Comparator.<Integer>comparingInt(k -> gain[k])
                    .thenComparing(Comparator.reverseOrder())).get();
            int holder = NONE;
            for (int i = 0; i < n; i++) {
                if (corner[i] == c) {
                    holder = i;
                }
            }
            if (holder == NONE) {
                corner[asker] = c;
                continue;
            }
            int first = Math.min(asker, holder);
            int second = Math.max(asker, holder);
            int loser = mights[second][c] > mights[first][c] ? first : second;
            corner[first + second - loser] = c;
            corner[loser] = NONE;
            open.get(loser).remove((Integer) c);
        }
    }

    private static int sum(int[] p, int[][] gains) {
        int sum = 0;
        for (int i = 0; i < p.length; i++) {
            sum += gains[i][p[i]];
        }
        return sum;
    }

    int parted(int n, int how, int sum) {
        String row = takeTape();
        if (!in(n, 1, 8) || !in(how, 0, 1) || how == 1 && !in(sum, 1, 255) || row.length() != 2 * n * n) {
            return NONE;
        }
        int[][] g = new int[n][n];
        int[][] m = new int[n][n];
        for (int i = 0; i < n * n; i++) {
            g[i / n][i % n] = row.charAt(i);
            m[i / n][i % n] = row.charAt(n * n + i);
        }
        int[] found = null;
        if (how == 0) {
            found = byOffers(g, m);
        } else {
            int[] p = new int[n];
            Arrays.setAll(p, i -> i);
            do {
                if (hasPeace(p, g, m, sum) && (found == null || sum(p, g) > sum(found, g))) {
                    found = p.clone();
                }
            } while (next(p));
        }
        if (found == null) {
            return NONE;
        }
        parted = found;
        gains = g;
        mights = m;
        return sum(found, g);
    }

    int partedAt(int k) {
        return parted == null || !in(k, 0, parted.length - 1) ? NONE : parted[k];
    }

    int peace(int sum) {
        return parted == null || !in(sum, 1, 255) ? NONE : hasPeace(parted, gains, mights, sum) ? 1 : 0;
    }

    // ---- truck

    int truck() {
        String row = takeTape();
        if (row.length() != 20) {
            return NONE;
        }
        Map<Integer, Integer> by = new HashMap<>();
        for (int c = 1; c < 10; c++) {
            int minute = row.charAt(2 * c) * 256 + row.charAt(2 * c + 1);
            if (minute != 65535) {
                by.put(c, minute);
            }
        }
        if (by.isEmpty()) {
            way = List.of();
            return 0;
        }
        int[] p = by.keySet().stream().mapToInt(c -> c).sorted().toArray();
        int[] found = null;
        int first = Integer.MAX_VALUE;
        do {
            int at = 0;
            int minute = 0;
            boolean inTime = true;
            for (int c : p) {
                minute += minutes.getOrDefault(at + "," + c, 10);
                at = c;
                inTime = inTime && minute <= by.get(c);
            }
            if (inTime && minute < first) {
                first = minute;
                found = p.clone();
            }
        } while (next(p));
        if (found == null) {
            return NONE;
        }
        way = Arrays.stream(found).boxed().toList();
        return first;
    }

    int truckAt(int k) {
        return in(k, 0, way.size() - 1) ? way.get(k) : NONE;
    }

    // ---- strike

    int strike(int fund, int need, int growth, int purse, int loss) {
        String row = takeTape();
        for (int n : new int[] {fund, need, growth, purse, loss}) {
            if (!in(n, 0, 100000)) {
                return NONE;
            }
        }
        if (row.length() % 2 == 1 || !in(row.length(), 2, 100)) {
            return NONE;
        }
        long boysFund = fund;
        long papersPurse = purse;
        long needed = need;
        for (int week = 0; week < row.length() / 2; week++) {
            boysFund -= needed;
            papersPurse -= loss;
            needed += growth;
            int boys = row.charAt(2 * week);
            int papers = row.charAt(2 * week + 1);
            int how = papers <= boys ? 0 : boysFund < 0 ? 1 : papersPurse < 0 ? 2 : 3;
            if (how < 3) {
                struck = new int[] {how, how == 2 ? boys : papers};
                return week;
            }
        }
        return NONE;
    }

    int struck(int what) {
        return in(what, 0, 1) ? struck[what] : NONE;
    }

    int count(int what) {
        int[] all = {today, boys.size(), bundles.size(), texts.size(), counts.size(), tape.length()};
        return in(what, 0, 5) ? all[what] : NONE;
    }
}
